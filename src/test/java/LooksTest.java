/** Promises 18 to 24: what rows, seats and columns are like, the order of seats, counts. */
final class LooksTest {
    private static final Class<?> ARGUMENT = IllegalArgumentException.class;
    private static final Class<?> INDEX = IndexOutOfBoundsException.class;
    private static final int FREE = HallSights.NONE;

    private LooksTest() {
    }

    public static void main(String[] args) {
        row();
        seat();
        seatBehindColumns();
        column();
        columnAtItsEdges();
        best();
        orderOfSeats();
        whoBlocks();
        count();
        setting();
        Check.end("LooksTest");
    }

    /**
     * Rows at 10, 20 and 30 on one level, so that heights are no matter: each head in a line is in
     * the way. Sides are -3 -1 1 3, -4 -2 0 2 4 and -3 -1 1 3. In the way are at most: of the row 1
     * the seat (0, 1) for the seat 1, and (0, 2) for the seat 3; of the row 2 (0, 1) for the seats
     * 0 and 1, (0, 2) for 2 and 3, (1, 1) for 0, (1, 2) for 1 and 2, and (1, 3) for 3.
     */
    static HallSights flatHall() {
        HallSights x = new HallSights();
        x.addRow(10, 0, 4);
        x.addRow(20, 0, 5);
        x.addRow(30, 0, 4);
        int[][] people = {{0, 1}, {0, 2}, {1, 2}, {1, 3}, {2, 0}, {2, 2}};
        for (int[] one : people) {
            x.take(one[0], one[1]);
        }
        return x;
    }

    private static void row() {
        HallSights x = flatHall();
        x.lift(1, 40);
        x.lift(2, 15);
        x.lift(0, 3);
        int[][] due = {{10, 3, 4, 2, 4, 3}, {20, 40, 5, 2, 3, 37}, {30, 15, 4, 2, 0, -25}};
        for (int row = 0; row < due.length; row++) {
            for (int what = 0; what < due[row].length; what++) {
                int of = row;
                int property = what;
                Check.looks("row(" + row + ", " + what + ")", x, due[row][what],
                        () -> x.row(of, property));
            }
        }
        Check.fails("row(3, 0)", x, INDEX, () -> x.row(3, 0));
        Check.fails("row(-1, 0)", x, INDEX, () -> x.row(-1, 0));
        Check.fails("row(3, 6)", x, INDEX, () -> x.row(3, 6));
        Check.fails("row(0, 6)", x, ARGUMENT, () -> x.row(0, 6));
        Check.fails("row(0, -1)", x, ARGUMENT, () -> x.row(0, -1));
    }

    private static void seat() {
        HallSights x = flatHall();
        int[][][] due = {
            {{-3, 0, 0, 0, 1, 0, 2}, {-1, 1, 0, 0, 1, 1, 0}, {1, 1, 0, 0, 1, 2, 1},
                {3, 0, 0, 0, 1, 0, 3}},
            {{-4, 0, 0, 0, 1, 0, 5}, {-2, 0, 1, 0, 0, 1, 7}, {0, 1, 0, 0, 1, 1, 4},
                {2, 1, 1, 0, 0, 0, 8}, {4, 0, 0, 0, 1, 0, 6}},
            {{-3, 1, 1, 0, 0, 0, 9}, {-1, 0, 2, 0, 0, 0, 10}, {1, 1, 2, 0, 0, 0, 11},
                {3, 0, 2, 0, 0, 0, 12}},
        };
        lookAtSeats(x, due);
        Check.fails("seat(3, 0, 0)", x, INDEX, () -> x.seat(3, 0, 0));
        Check.fails("seat(-1, 0, 0)", x, INDEX, () -> x.seat(-1, 0, 0));
        Check.fails("seat(0, 4, 0)", x, INDEX, () -> x.seat(0, 4, 0));
        Check.fails("seat(0, -1, 0)", x, INDEX, () -> x.seat(0, -1, 0));
        Check.fails("seat(0, 4, 7)", x, INDEX, () -> x.seat(0, 4, 7));
        Check.fails("seat(0, 0, 7)", x, ARGUMENT, () -> x.seat(0, 0, 7));
        Check.fails("seat(0, 0, -1)", x, ARGUMENT, () -> x.seat(0, 0, -1));
    }

    private static void lookAtSeats(HallSights x, int[][][] due) {
        for (int row = 0; row < due.length; row++) {
            for (int seat = 0; seat < due[row].length; seat++) {
                for (int what = 0; what < due[row][seat].length; what++) {
                    int ofRow = row;
                    int ofSeat = seat;
                    int property = what;
                    Check.looks("seat(" + row + ", " + seat + ", " + what + ")", x,
                            due[row][seat][what], () -> x.seat(ofRow, ofSeat, property));
                }
            }
        }
    }

    /** The columns of column(): they count in the order of seats as people do. */
    private static void seatBehindColumns() {
        HallSights x = flatHall();
        addColumns(x);
        int[][][] due = {
            {{-3, 0, 0, 0, 1, 0, 2}, {-1, 1, 0, 0, 1, 1, 0}, {1, 1, 0, 0, 1, 2, 1},
                {3, 0, 0, 0, 1, 0, 3}},
            {{-4, 0, 0, 1, 0, 0, 8}, {-2, 0, 1, 0, 0, 1, 6}, {0, 1, 0, 1, 0, 1, 5},
                {2, 1, 1, 0, 0, 0, 7}, {4, 0, 0, 0, 1, 0, 4}},
            {{-3, 1, 1, 1, 0, 0, 9}, {-1, 0, 2, 1, 0, 0, 10}, {1, 1, 2, 1, 0, 0, 11},
                {3, 0, 2, 1, 0, 0, 12}},
        };
        lookAtSeats(x, due);
    }

    /**
     * The lines of the row 1 pass 5 at -1 -0.5 0 0.5 1, and 15 at -3 -1.5 0 1.5 3; those of the row
     * 2 pass 20 at -2 -0.67 0.67 2.
     */
    private static void addColumns(HallSights x) {
        x.addColumn(5, 0, 0);
        x.addColumn(15, -3, 1);
        x.addColumn(20, 0, 2);
    }

    private static void column() {
        HallSights x = flatHall();
        addColumns(x);
        int[][] due = {{5, 0, 0, 1}, {15, -3, 1, 1}, {20, 0, 2, 4}};
        for (int column = 0; column < due.length; column++) {
            for (int what = 0; what < 4; what++) {
                int of = column;
                int property = what;
                Check.looks("column(" + column + ", " + what + ")", x, due[column][what],
                        () -> x.column(of, property));
            }
        }
        Check.fails("column(3, 0)", x, INDEX, () -> x.column(3, 0));
        Check.fails("column(-1, 0)", x, INDEX, () -> x.column(-1, 0));
        Check.fails("column(3, 4)", x, INDEX, () -> x.column(3, 4));
        Check.fails("column(0, 4)", x, ARGUMENT, () -> x.column(0, 4));
        Check.fails("column(0, -1)", x, ARGUMENT, () -> x.column(0, -1));
    }

    /** A row at 500 with seats at -11 -9 .. 11: lines pass 250 at -5.5 -4.5 .. 5.5. */
    private static void columnAtItsEdges() {
        int[][] columns = {{250, 0, 0, 0}, {250, 1, 1, 2}, {250, 0, 5, 10}, {250, -12, 5, 0},
            {250, -10, 5, 1}, {250, 12, 5, 0}, {250, 10, 4, 0}, {250, 10, 5, 1}, {500, 0, 5, 0},
            {499, 0, 5, 6}, {499, 0, 1, 2}, {999, 0, 5, 0}, {1, 0, 0, 0}, {1, 0, 1, 12},
            {1, 1, 1, 6}, {1, -1, 1, 6}};
        for (int[] column : columns) {
            HallSights x = new HallSights();
            x.addRow(500, 0, 12);
            x.addColumn(column[0], column[1], column[2]);
            Check.same("column(0, 3) of " + column[0] + " " + column[1] + " " + column[2],
                    x.column(0, 3), column[3]);
        }
        HallSights x = new HallSights();
        x.addRow(500, 0, 3);
        x.addColumn(250, 2, 1);
        Check.same("column(0, 3), the line just at its edge", x.column(0, 3), 1);
        x.lift(0, 999);
        Check.same("column(0, 3) of a high row: it is higher than everything", x.column(0, 3), 1);
    }

    private static void best() {
        HallSights x = flatHall();
        int[] due = {0, 3, 100, 104, 101, 201, 203, FREE, FREE};
        for (int place = 0; place < due.length; place++) {
            int at = place;
            Check.looks("best(" + place + ")", x, due[place], () -> x.best(at));
        }
        Check.looks("best(greatest)", x, FREE, () -> x.best(Integer.MAX_VALUE));
        Check.fails("best(-1)", x, ARGUMENT, () -> x.best(-1));
        Check.fails("best(least)", x, ARGUMENT, () -> x.best(Integer.MIN_VALUE));
        x.seatParty(1);
        Check.same("best(0) when it is taken", x.best(0), 3);
        HallSights y = new HallSights();
        Check.looks("best(0) in an empty hall", y, FREE, () -> y.best(0));
    }

    private static void orderOfSeats() {
        HallSights x = new HallSights();
        x.addRow(10, 0, 12);
        x.addRow(20, 0, 3);
        int[] due = {5, 6, 4, 7, 3, 8, 2, 9, 1, 10, 0, 11, 101, 100, 102};
        for (int place = 0; place < due.length; place++) {
            Check.same("best(" + place + ")", x.best(place), due[place]);
            Check.same("seat(.., .., 6) of " + due[place],
                    x.seat(due[place] / 100, due[place] % 100, 6), place);
        }
    }

    private static void whoBlocks() {
        HallSights x = flatHall();
        int[][] due = {{0, 0, FREE}, {1, 0, FREE}, {1, 1, 1}, {1, 2, FREE}, {1, 3, 2}, {2, 0, 1},
            {2, 1, 102}, {2, 2, 102}, {2, 3, 103}};
        for (int[] one : due) {
            Check.looks("whoBlocks(" + one[0] + ", " + one[1] + ")", x, one[2],
                    () -> x.whoBlocks(one[0], one[1]));
        }
        x.addColumn(15, 0, 5);
        Check.looks("whoBlocks(1, 0) behind a column alone", x, FREE, () -> x.whoBlocks(1, 0));
        Check.fails("whoBlocks(3, 0)", x, INDEX, () -> x.whoBlocks(3, 0));
        Check.fails("whoBlocks(-1, 0)", x, INDEX, () -> x.whoBlocks(-1, 0));
        Check.fails("whoBlocks(0, 4)", x, INDEX, () -> x.whoBlocks(0, 4));
        Check.fails("whoBlocks(0, -1)", x, INDEX, () -> x.whoBlocks(0, -1));
        // Seats of one row are 2 apart, so that at most one of a row is in the way.
        HallSights y = new HallSights();
        y.addRow(998, 0, 12);
        y.addRow(999, 0, 12);
        y.addRow(997, 0, 11);
        y.seatParty(11);
        y.seatParty(12);
        Check.same("whoBlocks(2, 4) of one straight ahead", y.whoBlocks(2, 4), 104);
        y.leave(1, 4);
        Check.same("whoBlocks(2, 4) of one in a row further ahead", y.whoBlocks(2, 4), 4);
        y.leave(0, 4);
        Check.same("whoBlocks(2, 4) of nobody", y.whoBlocks(2, 4), FREE);
    }

    private static void count() {
        HallSights x = flatHall();
        int[] due = {3, 0, 13, 6, 7, 3, 4, 2, 6};
        for (int what = 0; what < due.length; what++) {
            int number = what;
            Check.looks("count(" + what + ")", x, due[what], () -> x.count(number));
        }
        addColumns(x);
        int[] behindColumns = {3, 3, 13, 6, 5, 2, 4, 2, 6};
        for (int what = 0; what < due.length; what++) {
            Check.same("count(" + what + ") with columns", x.count(what), behindColumns[what]);
        }
        Check.fails("count(9)", x, ARGUMENT, () -> x.count(9));
        Check.fails("count(-1)", x, ARGUMENT, () -> x.count(-1));
        x.clear();
        Check.same("count(7) of an empty row", x.count(7), 5);
        x.undo();
        Check.same("count(8) after undo()", x.count(8), 5);
    }

    private static void setting() {
        HallSights x = new HallSights();
        x.set(0, 7);
        x.set(1, 8);
        x.set(2, 9);
        for (int setting = 0; setting < 3; setting++) {
            int of = setting;
            Check.looks("setting(" + setting + ")", x, 7 + setting, () -> x.setting(of));
        }
        Check.fails("setting(3)", x, INDEX, () -> x.setting(3));
        Check.fails("setting(-1)", x, INDEX, () -> x.setting(-1));
    }
}
