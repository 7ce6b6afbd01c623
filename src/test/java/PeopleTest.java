/** Promises 8 to 12: who takes seats and leaves them, parties, rows that are lifted. */
final class PeopleTest {
    private static final Class<?> ARGUMENT = IllegalArgumentException.class;
    private static final Class<?> STATE = IllegalStateException.class;
    private static final Class<?> INDEX = IndexOutOfBoundsException.class;

    private PeopleTest() {
    }

    public static void main(String[] args) {
        take();
        takeAtTheEdgeOfSides();
        takeAtTheEdgeOfHeights();
        leave();
        seatParty();
        partyInAHigherRow();
        partyCountsAllSeatBySeat();
        seatPartyRefuses();
        clear();
        liftAll();
        liftAllUpTo999();
        Check.end("PeopleTest");
    }

    /** Rows at 10 and 20 on one level, with seats at -3 -1 1 3 and -4 -2 0 2 4. */
    private static HallSights flatHall() {
        HallSights x = new HallSights();
        x.addRow(10, 0, 4);
        x.addRow(20, 0, 5);
        return x;
    }

    private static void take() {
        HallSights x = flatHall();
        x.addColumn(5, 0, 5);
        Check.undoable("take(1, 1) behind nobody", x, 0, () -> x.take(1, 1));
        x.take(0, 1);
        x.undo();
        Check.undoable("take(0, 1)", x, 0, () -> x.take(0, 1));
        Check.same("seat(1, 1, 2)", x.seat(1, 1, 2), 1);
        x.take(0, 2);
        Check.same("take(1, 3) behind one", x.take(1, 3), 1);
        Check.same("take(1, 4) beside the heads", x.take(1, 4), 0);
        Check.fails("take(1, 4) again", x, STATE, () -> x.take(1, 4));
        Check.fails("take(0, 4)", x, INDEX, () -> x.take(0, 4));
        Check.fails("take(0, -1)", x, INDEX, () -> x.take(0, -1));
        Check.fails("take(2, 0)", x, INDEX, () -> x.take(2, 0));
        Check.fails("take(-1, 0)", x, INDEX, () -> x.take(-1, 0));
        Check.fails("take(0, 32)", x, INDEX, () -> x.take(0, 32));
        Check.same("count(3)", x.count(3), 5);
    }

    /** The lines of the row 1 pass the row 0, at half the distance, at -1 0 1: its seat is at 0. */
    private static void takeAtTheEdgeOfSides() {
        HallSights x = new HallSights();
        x.addRow(10, 0, 1);
        x.addRow(20, 0, 3);
        x.take(0, 0);
        Check.same("take(1, 0), apart by just 1", x.take(1, 0), 0);
        Check.same("take(1, 1), straight behind", x.take(1, 1), 1);
        Check.same("take(1, 2), apart by just 1", x.take(1, 2), 0);
        HallSights y = new HallSights();
        y.addRow(499, 0, 1);
        y.addRow(999, 0, 3);
        y.take(0, 0);
        Check.same("take(1, 0), apart by less than 1", y.take(1, 0), 1);
        Check.same("take(1, 2), apart by less than 1", y.take(1, 2), 1);
    }

    /** The head ends 32 above the point; at half the distance, so does the line of an eye at 64. */
    private static void takeAtTheEdgeOfHeights() {
        HallSights x = new HallSights();
        x.addRow(10, 0, 1);
        x.addRow(20, 44, 1);
        x.take(0, 0);
        Check.same("take(1, 0), the head just at the line", x.take(1, 0), 0);
        x.lift(1, 43);
        Check.same("the head above the line", x.seat(1, 0, 2), 1);
        x.set(2, 11);
        Check.same("a head that ends lower", x.seat(1, 0, 2), 0);
        x.set(0, 101);
        Check.same("a higher point", x.seat(1, 0, 2), 0);
        x.set(0, 97);
        Check.same("a lower point", x.seat(1, 0, 2), 1);
        x.set(1, 116);
        Check.same("lower eyes and heads", x.seat(1, 0, 2), 0);
        x.set(0, 999);
        x.lift(1, 0);
        Check.same("a point far above the eyes", x.seat(1, 0, 2), 0);
    }

    private static void leave() {
        HallSights x = flatHall();
        x.take(0, 1);
        x.take(1, 0);
        x.take(1, 4);
        Check.undoable("leave(1, 0)", x, 2, () -> x.leave(1, 0));
        Check.same("seat(1, 0, 1)", x.seat(1, 0, 1), 0);
        Check.same("seat(1, 4, 1)", x.seat(1, 4, 1), 1);
        Check.fails("leave(1, 0) again", x, STATE, () -> x.leave(1, 0));
        Check.fails("leave(1, 5)", x, INDEX, () -> x.leave(1, 5));
        Check.fails("leave(1, -1)", x, INDEX, () -> x.leave(1, -1));
        Check.fails("leave(2, 0)", x, INDEX, () -> x.leave(2, 0));
        Check.fails("leave(-1, 0)", x, INDEX, () -> x.leave(-1, 0));
        Check.same("leave(0, 1)", x.leave(0, 1), 1);
        Check.same("leave(1, 4)", x.leave(1, 4), 0);
    }

    private static void seatParty() {
        HallSights x = flatHall();
        Check.undoable("seatParty(5) fits the row 1 alone", x, 100, () -> x.seatParty(5));
        Check.same("row(1, 3)", x.row(1, 3), 5);
        Check.undoable("seatParty(4)", x, 0, () -> x.seatParty(4));
        x.clear();
        x.take(0, 1);
        x.take(0, 2);
        Check.same("seatParty(1) in the lowest row", x.seatParty(1), 0);
        x.take(0, 3);
        Check.same("seatParty(1) from the lowest seat", x.seatParty(1), 100);
        x.leave(1, 0);
        x.addColumn(15, -3, 0);
        // In the way of the row 1 are now 1 1 0 1 0, of which the first is the column.
        Check.undoable("seatParty(1) past a column", x, 102, () -> x.seatParty(1));
        x.leave(1, 2);
        Check.undoable("seatParty(2), of several the lowest", x, 101, () -> x.seatParty(2));
        Check.same("seatParty(2) behind it", x.seatParty(2), 103);
        Check.same("seat(1, 0, 1)", x.seat(1, 0, 1), 0);
        Check.same("count(3)", x.count(3), 8);
    }

    /** The lines at 5 are at 0 for the row 0, at -0.25 and 0.25 for the row 1: they pass the column. */
    private static void partyInAHigherRow() {
        HallSights x = new HallSights();
        x.addRow(10, 0, 1);
        x.addRow(20, 0, 2);
        x.addColumn(5, 0, 0);
        Check.same("seatParty(1) in the higher row", x.seatParty(1), 100);
        Check.same("seatParty(1) in the higher row again", x.seatParty(1), 101);
        Check.same("seatParty(1) behind the column", x.seatParty(1), 0);
    }

    /** Lines of the row 0 at 5 are at -1.5 -0.5 0.5 1.5: in the way are 3 0 1 1. */
    private static void partyCountsAllSeatBySeat() {
        HallSights x = new HallSights();
        x.addRow(10, 0, 4);
        x.addColumn(5, -2, 1);
        x.addColumn(5, -3, 2);
        x.addColumn(5, -4, 3);
        x.addColumn(5, 1, 1);
        int[] due = {3, 0, 1, 1};
        for (int seat = 0; seat < due.length; seat++) {
            Check.same("seat(0, " + seat + ", 3)", x.seat(0, seat, 3), due[seat]);
        }
        // Two seats that have one each in their way are better than one that has three.
        Check.same("seatParty(3)", x.seatParty(3), 1);
    }

    private static void seatPartyRefuses() {
        HallSights x = new HallSights();
        Check.fails("seatParty(1) in an empty hall", x, STATE, () -> x.seatParty(1));
        Check.fails("seatParty(0)", x, ARGUMENT, () -> x.seatParty(0));
        Check.fails("seatParty(13)", x, ARGUMENT, () -> x.seatParty(13));
        Check.fails("seatParty(-1)", x, ARGUMENT, () -> x.seatParty(-1));
        Check.fails("seatParty(33)", x, ARGUMENT, () -> x.seatParty(33));
        x.addRow(10, 0, 12);
        x.addRow(20, 0, 2);
        Check.undoable("seatParty(12)", x, 0, () -> x.seatParty(12));
        x.leave(0, 11);
        x.leave(0, 5);
        Check.fails("seatParty(3), free seats not side by side", x, STATE, () -> x.seatParty(3));
        Check.same("seatParty(2)", x.seatParty(2), 100);
        Check.fails("seatParty(2) once more", x, STATE, () -> x.seatParty(2));
        Check.same("seatParty(1)", x.seatParty(1), 5);
        Check.same("seatParty(1) at the row's end", x.seatParty(1), 11);
        Check.fails("seatParty(1) in a full hall", x, STATE, () -> x.seatParty(1));
    }

    private static void clear() {
        HallSights x = flatHall();
        Check.undoable("clear() with nobody", x, 0, () -> x.clear());
        x.addColumn(1, 1, 1);
        x.take(0, 0);
        x.take(0, 3);
        x.take(1, 4);
        long seats = x.count(2);
        Check.same("clear()", x.clear(), 3);
        Check.same("count(3)", x.count(3), 0);
        x.undo();
        Check.undoable("clear() of three", x, 3, () -> x.clear());
        Check.same("count(1)", x.count(1), 1);
        Check.same("count(2)", x.count(2), seats);
    }

    private static void liftAll() {
        HallSights x = new HallSights();
        Check.undoable("liftAll() in an empty hall", x, 0, () -> x.liftAll());
        x.addRow(10, 0, 1);
        x.addRow(20, 0, 12);
        x.addRow(30, 0, 3);
        Check.same("leastHeight(2) ahead of it", x.leastHeight(2), 76);
        Check.undoable("liftAll()", x, 2, () -> x.liftAll());
        Check.same("row(0, 1)", x.row(0, 1), 0);
        Check.same("row(1, 1)", x.row(1, 1), 44);
        // Ahead of it the row 1 is lifted already: 76 * 30 / 20 - 20.
        Check.same("row(2, 1)", x.row(2, 1), 94);
        x.lift(1, 43);
        x.lift(2, 500);
        Check.undoable("liftAll() of the row 1 alone", x, 1, () -> x.liftAll());
        Check.same("row(1, 1) once more", x.row(1, 1), 44);
        Check.same("row(2, 1), which was higher", x.row(2, 1), 500);
        Check.undoable("liftAll() of no row", x, 0, () -> x.liftAll());
    }

    private static void liftAllUpTo999() {
        HallSights x = new HallSights();
        x.addRow(998, 985, 1);
        x.addRow(999, 0, 1);
        Check.same("leastHeight(1)", x.leastHeight(1), 999);
        Check.same("liftAll() up to 999", x.liftAll(), 1);
        Check.same("row(1, 1)", x.row(1, 1), 999);
        x.lift(0, 986);
        x.lift(1, 7);
        Check.same("leastHeight(1) above 999", x.leastHeight(1), 1000);
        Check.same("liftAll() with a row that would be too high", x.liftAll(), 0);
        Check.same("row(1, 1) as it was", x.row(1, 1), 7);
        HallSights y = new HallSights();
        y.addRow(10, 0, 1);
        y.addRow(20, 0, 1);
        y.addRow(500, 3, 1);
        Check.same("liftAll() up to the far row", y.liftAll(), 1);
        Check.same("row(1, 1)", y.row(1, 1), 44);
        Check.same("row(2, 1)", y.row(2, 1), 3);
    }
}
