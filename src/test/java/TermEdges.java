import java.lang.reflect.Method;
import java.lang.reflect.Modifier;

/** Sentences of "Terms" but for those of the buffer, undo and exceptions: see RuleEdges. */
final class TermEdges {
    private TermEdges() {
    }

    static void all() {
        Sentences.part("What it is");
        Sentences.test("Seats in a hall with sight lines to one point of the stage: rows on steps,"
                + " heads of those who sit ahead, columns in the way", TermEdges::aHall);
        Sentences.test("An object is used for at most 512 calls after it has been made; what later"
                + " calls answer is free.", TermEdges::calls512);
        Sentences.part("Terms");
        Sentences.test("All numbers are integers, but for a share.", TermEdges::integers);
        hall();
        sightLines();
        order();
        settings();
    }

    private static void hall() {
        Sentences.part("Hall");
        Sentences.test("There are at most 10 rows", TermEdges::tenRows);
        Sentences.test("numbered from 0 by ascending distances", TermEdges::rowNumbers);
        Sentences.test("A row has a distance from the stage, 1 to 999", TermEdges::distances);
        Sentences.test("unlike that of each other row", TermEdges::unlike);
        Sentences.test("a height of its floor, 0 to 999", TermEdges::heights);
        Sentences.test("1 to 12 seats, numbered from 0", TermEdges::seatNumbers);
        Sentences.test("The seat k of a row with m seats is at the side 2 * k - (m - 1), in half"
                + " seats (below 0 to the left, 0 in the middle).", TermEdges::sides);
        Sentences.test("A seat is taken or free.", TermEdges::takenOrFree);
        Sentences.test("There are at most 4 columns, numbered from 0 in the order in which they"
                + " came", TermEdges::fourColumns);
        Sentences.test("(if one is removed, those behind it have numbers that are less by 1)",
                TermEdges::columnRemoved);
        Sentences.test("A column has a distance, 1 to 999, a side, -12 to 12, and a half width,"
                + " 0 to 5, in half seats", TermEdges::columnLimits);
        Sentences.test("it is higher than everything", TermEdges::higherThanEverything);
    }

    private static void sightLines() {
        Sentences.part("Sight lines");
        Sentences.test("The point that everybody looks at is at the distance 0 and the side 0",
                TermEdges::pointAtSide0);
        Sentences.test("at the height of setting 0", TermEdges::pointHeight);
        Sentences.test("The eye of a seat is above the floor of its row by setting 1",
                TermEdges::eye);
        Sentences.test("the head of somebody who sits there ends above the floor by setting 1 and"
                + " setting 2 together", TermEdges::head);
        Sentences.test("The sight line of a seat goes straight from its eye to the point",
                TermEdges::straight);
        Sentences.test("so for a seat at the side x in a row with the distance d, at a distance q"
                + " below d, it is at the side x * q / d", TermEdges::sideOfLine);
        Sentences.test("above the point, at the height (floor + setting 1 - setting 0) * q / d, as"
                + " fractions", TermEdges::heightOfLine);
        Sentences.test("Somebody is in the way of a seat, if that one sits in a row with a smaller"
                + " distance", TermEdges::smallerDistance);
        Sentences.test("at a side that differs from that of the sight line there by less than 1",
                TermEdges::lessThan1);
        Sentences.test("and the head ends higher than the sight line there",
                TermEdges::higherThanLine);
        Sentences.test("A column is in the way of a seat, if its distance is below that of the"
                + " seat's row", TermEdges::columnDistance);
        Sentences.test("and its side differs from that of the sight line there by at most its half"
                + " width", TermEdges::atMostHalf);
        Sentences.test("A seat sees if nobody and no column is in its way.", TermEdges::sees);
        Sentences.test("(Whether the seat is taken itself does not matter.)",
                TermEdges::takenNoMatter);
    }

    private static void order() {
        Sentences.part("Order of seats");
        Sentences.test("those with fewer in their way first (people and columns together)",
                TermEdges::fewerFirst);
        Sentences.test("of these by rows, the lower row first", TermEdges::lowerRowFirst);
        Sentences.test("of these those nearer to the side 0", TermEdges::nearerFirst);
        Sentences.test("of these the lower number", TermEdges::lowerNumberFirst);
    }

    private static void settings() {
        Sentences.part("Settings");
        Sentences.test("0: the height of the point, 0 to 999, at first 100",
                () -> setting(0, 100, 0, 999));
        Sentences.test("1: the eye above the floor, 1 to 300, at first 120",
                () -> setting(1, 120, 1, 300));
        Sentences.test("2: the head above the eye, 0 to 100, at first 12",
                () -> setting(2, 12, 0, 100));
    }

    // ---- what it is, and numbers

    private static void aHall() {
        HallSights x = Halls.busy();
        Check.same("rows", x.count(0), 4);
        Check.same("columns", x.count(1), 2);
        Check.same("who sits there", x.count(3), 3);
    }

    /** Changes, refused calls, and calls for the buffer, 512 of each in all. */
    private static void calls512() {
        HallSights x = new HallSights();
        x.addRow(10, 0, 1);
        for (int call = 2; call <= 510; call++) {
            Check.same("call " + call, x.lift(0, call), call == 2 ? 0 : call - 1);
        }
        Check.same("call 511, undo()", x.undo(), 5);
        Check.same("call 512, row(0, 1)", x.row(0, 1), 509);
        HallSights y = new HallSights();
        for (int call = 1; call < 512; call++) {
            Edge.throwsJust("call " + call, Edge.STATE, y, z -> z.undo());
        }
        Check.same("call 512, addRow()", y.addRow(10, 0, 1), 0);
        HallSights z = Halls.withText("");
        for (int call = 2; call < 512; call += 2) {
            Check.same("call " + call, z.append(33 + call % 94), 1);
            Check.same("call " + (call + 1), z.clearBuffer(), 1);
        }
    }

    private static void integers() {
        for (Method method : HallSights.class.getDeclaredMethods()) {
            if (Modifier.isPublic(method.getModifiers())) {
                Class<?> due = method.getName().equals("seeingShare") ? double.class
                        : method.getName().equals("digest") ? long.class : int.class;
                Check.holds("the type of " + method, method.getReturnType() == due);
            }
        }
    }

    // ---- hall

    private static void tenRows() {
        HallSights x = new HallSights();
        for (int row = 0; row < 10; row++) {
            Check.same("addRow() with " + row + " rows", x.addRow(5 + row, 0, 12), row);
        }
        Edge.throwsJust("addRow() with 10 rows", Edge.STATE, x, y -> y.addRow(500, 0, 1));
        Check.same("count(0)", x.count(0), 10);
        Check.same("row(9, 0)", x.row(9, 0), 14);
        Edge.throwsJust("row(10, 0)", Edge.INDEX, x, y -> y.row(10, 0));
    }

    private static void rowNumbers() {
        int[] distances = {5, 999, 1, 400, 399, 401, 2, 998, 3, 4};
        int[] due = {1, 2, 3, 4, 5, 399, 400, 401, 998, 999};
        HallSights x = new HallSights();
        for (int distance : distances) {
            x.addRow(distance, 1000 - distance, 1 + distance % 12);
        }
        for (int row = 0; row < due.length; row++) {
            Check.same("row(" + row + ", 0)", x.row(row, 0), due[row]);
            Check.same("row(" + row + ", 1)", x.row(row, 1), 1000 - due[row]);
            Check.same("row(" + row + ", 2)", x.row(row, 2), 1 + due[row] % 12);
        }
    }

    private static void distances() {
        HallSights x = new HallSights();
        x.addRow(999, 0, 1);
        x.addRow(1, 0, 1);
        Check.same("the least distance", x.row(0, 0), 1);
        Check.same("the greatest distance", x.row(1, 0), 999);
        Edge.refusesEach("addRow() at a distance", Edge.ARGUMENT, Halls::busy,
                (y, distance) -> y.addRow(distance, 0, 1), 0, 1000, -1);
        Edge.throwsJust("addAll() at 0", Edge.ARGUMENT, Halls.withText("0^0*1"), y -> y.addAll());
        Edge.throwsJust("addAll() at 1000", Edge.ARGUMENT, Halls.withText("1000^0*1"),
                y -> y.addAll());
    }

    private static void unlike() {
        HallSights x = new HallSights();
        x.addRow(10, 0, 1);
        x.addRow(12, 0, 1);
        Edge.throwsJust("addRow() at 10 again", Edge.STATE, x, y -> y.addRow(10, 5, 2));
        Edge.throwsJust("addRow() at 12 again", Edge.STATE, x, y -> y.addRow(12, 5, 2));
        Check.same("addRow() between them", x.addRow(11, 0, 1), 1);
        Check.same("count(0)", x.count(0), 3);
    }

    private static void heights() {
        HallSights x = new HallSights();
        x.addRow(10, 999, 1);
        x.addRow(11, 0, 1);
        Check.same("the greatest height", x.row(0, 1), 999);
        Check.same("the least height", x.row(1, 1), 0);
        Edge.refusesEach("addRow() at a height", Edge.ARGUMENT, Halls::busy,
                (y, height) -> y.addRow(99, height, 1), -1, 1000);
        Edge.refusesEach("lift() to a height", Edge.ARGUMENT, Halls::busy,
                (y, height) -> y.lift(0, height), -1, 1000);
    }

    private static void seatNumbers() {
        for (int seats = 1; seats <= 12; seats++) {
            HallSights x = new HallSights();
            x.addRow(10, 0, seats);
            int last = seats - 1;
            Check.same("seats", x.row(0, 2), seats);
            Check.same("take() of the first of " + seats, x.take(0, 0), 0);
            x.leave(0, 0);
            Check.same("take() of the last of " + seats, x.take(0, last), 0);
            Check.same("that it is taken", x.seat(0, last, 1), 1);
            Edge.throwsJust("take() behind the last of " + seats, Edge.INDEX, x,
                    y -> y.take(0, last + 1));
        }
        Edge.refusesEach("addRow() with seats", Edge.ARGUMENT, Halls::busy,
                (y, seats) -> y.addRow(99, 0, seats), 0, 13);
    }

    private static void sides() {
        int[][] due = {{0}, {-1, 1}, {-2, 0, 2}, {-3, -1, 1, 3}, {-4, -2, 0, 2, 4},
            {-5, -3, -1, 1, 3, 5}, {-6, -4, -2, 0, 2, 4, 6}, {-7, -5, -3, -1, 1, 3, 5, 7},
            {-8, -6, -4, -2, 0, 2, 4, 6, 8}, {-9, -7, -5, -3, -1, 1, 3, 5, 7, 9},
            {-10, -8, -6, -4, -2, 0, 2, 4, 6, 8, 10},
            {-11, -9, -7, -5, -3, -1, 1, 3, 5, 7, 9, 11}};
        for (int[] sides : due) {
            HallSights x = new HallSights();
            x.addRow(10, 0, sides.length);
            Edge.allAre("the side in a row of " + sides.length, x, (y, k) -> y.seat(0, k, 0),
                    sides);
        }
    }

    private static void takenOrFree() {
        HallSights x = Halls.large();
        x.take(4, 11);
        int taken = 0;
        for (int row = 0; row < 10; row++) {
            for (int seat = 0; seat < 12; seat++) {
                int answer = x.seat(row, seat, 1);
                Check.same("seat(" + row + ", " + seat + ", 1)", answer,
                        row == 4 && seat == 11 ? 1 : 0);
                taken += answer;
            }
        }
        Check.same("count(3)", x.count(3), taken);
    }

    private static void fourColumns() {
        HallSights x = new HallSights();
        int[] distances = {900, 3, 500, 3};
        for (int column = 0; column < 4; column++) {
            Check.same("addColumn() with " + column + " columns",
                    x.addColumn(distances[column], column, 1), column);
        }
        Edge.throwsJust("addColumn() with 4 columns", Edge.STATE, x, y -> y.addColumn(1, 0, 0));
        Edge.allAre("the distance", x, (y, column) -> y.column(column, 0), distances);
        Edge.allAre("the side", x, (y, column) -> y.column(column, 1), 0, 1, 2, 3);
        Edge.throwsJust("column(4, 0)", Edge.INDEX, x, y -> y.column(4, 0));
    }

    private static void columnRemoved() {
        for (int removed = 0; removed < 4; removed++) {
            HallSights x = new HallSights();
            for (int column = 0; column < 4; column++) {
                x.addColumn(7 + column, 1 - column, column);
            }
            Check.same("removeColumn(" + removed + ")", x.removeColumn(removed), 3);
            for (int column = 0; column < 3; column++) {
                int before = column < removed ? column : column + 1;
                Edge.columnIs(x, column, (7 + before) + " " + (1 - before) + " " + before);
            }
            Check.same("addColumn() then", x.addColumn(1, 12, 5), 3);
            Edge.columnIs(x, 3, "1 12 5");
        }
    }

    private static void columnLimits() {
        HallSights x = new HallSights();
        x.addColumn(1, -12, 0);
        x.addColumn(999, 12, 5);
        Edge.columnIs(x, 0, "1 -12 0");
        Edge.columnIs(x, 1, "999 12 5");
        Edge.refusesEach("addColumn() at a distance", Edge.ARGUMENT, Halls::busy,
                (y, distance) -> y.addColumn(distance, 0, 0), 0, 1000);
        Edge.refusesEach("addColumn() at a side", Edge.ARGUMENT, Halls::busy,
                (y, side) -> y.addColumn(5, side, 0), -13, 13);
        Edge.refusesEach("addColumn() with a half width", Edge.ARGUMENT, Halls::busy,
                (y, half) -> y.addColumn(5, 0, half), -1, 6);
    }

    private static void higherThanEverything() {
        int[][] settings = {{0, 300, 100}, {999, 1, 0}, {999, 300, 0}, {0, 1, 0}};
        for (int[] values : settings) {
            HallSights x = new HallSights();
            x.addRow(999, 999, 1);
            x.addColumn(998, 0, 0);
            x.addColumn(1, 0, 0);
            for (int setting = 0; setting < 3; setting++) {
                x.set(setting, values[setting]);
            }
            Check.same("columns in the way of an eye at 999", x.seat(0, 0, 3), 2);
            x.lift(0, 0);
            Check.same("columns in the way of an eye at 0", x.seat(0, 0, 3), 2);
        }
    }

    // ---- sight lines

    /** Near the stage all lines come together at the side 0: 11 * 1 / 999 from it at most. */
    private static void pointAtSide0() {
        HallSights x = new HallSights();
        x.addRow(1, 999, 1);
        x.addRow(999, 0, 12);
        x.take(0, 0);
        Edge.allAre("people in the way of the seat", x, (y, seat) -> y.seat(1, seat, 2),
                1, 1, 1, 1, 1, 1, 1, 1, 1, 1, 1, 1);
        HallSights z = new HallSights();
        z.addRow(1, 999, 2);
        z.addRow(999, 0, 12);
        z.seatParty(2);
        Edge.allAre("people beside the point in the way of the seat", z,
                (y, seat) -> y.seat(1, seat, 2), 1, 1, 1, 1, 1, 1, 1, 1, 1, 1, 1, 1);
        HallSights v = new HallSights();
        v.addRow(1, 999, 3);
        v.addRow(999, 0, 1);
        v.seatParty(3);
        Check.same("of three at the point those in the way of the seat", v.seat(1, 0, 2), 1);
    }

    /** At half the distance the line is half as far above the point, or below it, as the eye. */
    private static void pointHeight() {
        HallSights x = Halls.two(10, 0, 20, 0);
        x.take(0, 0);
        x.set(0, 144);
        // Above the point the head ends at -12, and the eye is at -24: the line is at -12 there.
        Check.same("a head just at the line to the point at 144", x.seat(1, 0, 2), 0);
        x.set(0, 143);
        Check.same("a head above the line to the point at 143", x.seat(1, 0, 2), 1);
        x.set(0, 145);
        Check.same("a head below the line to the point at 145", x.seat(1, 0, 2), 0);
        x.set(0, 999);
        Check.same("a head below the line to the point at 999", x.seat(1, 0, 2), 0);
        x.set(0, 0);
        Check.same("a head above the line to the point at 0", x.seat(1, 0, 2), 1);
    }

    /** The point is at 0, and heads end at the eyes. */
    private static void eye() {
        HallSights x = Halls.two(10, 500, 20, 999);
        x.take(0, 0);
        x.set(0, 0);
        x.set(2, 0);
        // At half the distance the line is at (999 + eye) / 2, and the head ends at 500 + eye.
        x.set(1, 1);
        Check.same("eyes at 1: the head at 501 above the line at 500", x.seat(1, 0, 2), 1);
        x.lift(0, 499);
        Check.same("eyes at 1: the head at 500 just at the line", x.seat(1, 0, 2), 0);
        x.set(1, 300);
        Check.same("eyes at 300: the head at 799 above the line at 649.5", x.seat(1, 0, 2), 1);
        x.lift(0, 349);
        Check.same("eyes at 300: the head at 649 below the line at 649.5", x.seat(1, 0, 2), 0);
        x.lift(0, 350);
        Check.same("eyes at 300: the head at 650 above the line at 649.5", x.seat(1, 0, 2), 1);
    }

    /** Eyes at the height of the point look level, past heads that end no higher than eyes. */
    private static void head() {
        HallSights x = Halls.two(10, 0, 20, 0);
        x.take(0, 0);
        x.set(0, 120);
        x.set(2, 0);
        Check.same("a head that ends at the eye", x.seat(1, 0, 2), 0);
        x.set(2, 1);
        Check.same("a head that ends 1 above the eye", x.seat(1, 0, 2), 1);
        x.set(2, 100);
        x.lift(1, 200);
        Check.same("a head that ends 100 above the eye, just at the line", x.seat(1, 0, 2), 0);
        x.lift(1, 199);
        Check.same("a head that ends 100 above the eye, above the line", x.seat(1, 0, 2), 1);
        x.lift(1, 198);
        x.set(2, 99);
        Check.same("a head that ends 99 above the eye, just at the line", x.seat(1, 0, 2), 0);
    }

    /** The line of an eye at 900 above the point passes 100, 200 and 300 at a ninth of each. */
    private static void straight() {
        HallSights x = new HallSights();
        x.set(0, 132);
        for (int row = 1; row <= 9; row++) {
            x.addRow(100 * row, row < 9 ? 100 * row : 912, 1);
        }
        for (int row = 0; row < 8; row++) {
            x.take(row, 0);
        }
        Check.same("heads just at the line", x.seat(8, 0, 2), 0);
        for (int row = 0; row < 8; row++) {
            x.lift(row, 100 * (row + 1) + 1);
            Check.same("heads above the line", x.seat(8, 0, 2), row + 1);
        }
    }

    /** The line of the side 11 passes 7 of 13 at 5.92: in the way are heads from 4.93 to 6.92. */
    private static void sideOfLine() {
        HallSights x = new HallSights();
        x.addRow(7, 999, 11);
        x.addRow(13, 0, 12);
        x.seatParty(11);
        // Sides ahead are -10 -8 .. 10, and lines pass at -5.92 -4.85 -3.77 -2.69 -1.62 -0.54 ..
        int[] due = {2, 3, 3, 4, 4, 5, 5, 6, 6, 7, 7, 8};
        for (int seat = 0; seat < due.length; seat++) {
            Check.same("seat(1, " + seat + ", 2)", x.seat(1, seat, 2), 1);
            Check.same("whoBlocks(1, " + seat + ")", x.whoBlocks(1, seat), due[seat]);
        }
    }

    /** Above the point, eyes of 1 and of -1 have lines at 1 * q / d and -1 * q / d. */
    private static void heightOfLine() {
        HallSights x = Halls.two(2, 0, 3, 1);
        x.take(0, 0);
        x.set(0, 120);
        x.set(2, 1);
        // The line is at 2 / 3, which is neither 0 nor 1: heads end at 1, and at 0 next.
        Check.same("a head at 1 above a line at 2 / 3", x.seat(1, 0, 2), 1);
        x.set(2, 0);
        Check.same("a head at 0 below a line at 2 / 3", x.seat(1, 0, 2), 0);
        x.set(0, 122);
        x.lift(0, 1);
        // The eye is at -1, the line at -2 / 3, heads end at -1, and at 0 next.
        Check.same("a head at -1 below a line at -2 / 3", x.seat(1, 0, 2), 0);
        x.set(2, 1);
        Check.same("a head at 0 above a line at -2 / 3", x.seat(1, 0, 2), 1);
    }

    private static void smallerDistance() {
        HallSights x = new HallSights();
        x.addRow(998, 0, 3);
        x.addRow(999, 999, 3);
        x.seatParty(3);
        x.seatParty(3);
        Check.same("those behind, and those beside", x.seat(0, 1, 2), 0);
        Check.same("those beside a seat at the end", x.seat(0, 0, 2), 0);
        x.lift(0, 999);
        x.lift(1, 0);
        Check.same("those ahead by 1, and not those beside", x.seat(1, 1, 2), 1);
    }

    private static void lessThan1() {
        HallSights x = new HallSights();
        x.addRow(500, 999, 1);
        x.addRow(999, 0, 3);
        x.take(0, 0);
        Edge.allAre("apart by 1000 / 999", x, (y, seat) -> y.seat(1, seat, 2), 0, 1, 0);
        HallSights z = new HallSights();
        z.addRow(499, 999, 1);
        z.addRow(998, 0, 3);
        z.addRow(999, 0, 3);
        z.take(0, 0);
        Edge.allAre("apart by just 1", z, (y, seat) -> y.seat(1, seat, 2), 0, 1, 0);
        Edge.allAre("apart by 998 / 999", z, (y, seat) -> y.seat(2, seat, 2), 1, 1, 1);
        HallSights v = new HallSights();
        v.addRow(10, 999, 2);
        v.addRow(20, 0, 1);
        v.seatParty(2);
        Check.same("two that are apart by just 1, on both sides", v.seat(1, 0, 2), 0);
    }

    /** The head ends 32 above the point, the line is at eye * 7 / 9 there, which is 32 at 41.1. */
    private static void higherThanLine() {
        HallSights x = Halls.two(7, 0, 9, 21);
        x.take(0, 0);
        Check.same("a head at 32 above a line at 31.9", x.seat(1, 0, 2), 1);
        x.lift(1, 22);
        Check.same("a head at 32 below a line at 32.7", x.seat(1, 0, 2), 0);
        HallSights y = Halls.two(8, 0, 9, 16);
        y.take(0, 0);
        Check.same("a head at 32 just at a line at 32", y.seat(1, 0, 2), 0);
        y.lift(1, 15);
        Check.same("a head at 32 above a line at 31.1", y.seat(1, 0, 2), 1);
    }

    private static void columnDistance() {
        int[][] due = {{499, 1}, {500, 0}, {501, 0}, {999, 0}, {1, 1}};
        for (int[] column : due) {
            HallSights x = new HallSights();
            x.addRow(500, 0, 1);
            x.addColumn(column[0], 0, 5);
            Check.same("a column at " + column[0] + " and a row at 500", x.seat(0, 0, 3),
                    column[1]);
        }
    }

    /** Lines of a row at 500 with the sides -2 0 2 pass 250 at -1 0 1. */
    private static void atMostHalf() {
        HallSights x = new HallSights();
        x.addRow(500, 0, 3);
        x.addColumn(250, 0, 0);
        Edge.allAre("a half width of 0", x, (y, seat) -> y.seat(0, seat, 3), 0, 1, 0);
        x.addColumn(250, 0, 1);
        Edge.allAre("and one of 1, just at it", x, (y, seat) -> y.seat(0, seat, 3), 1, 2, 1);
        x.addColumn(251, 0, 1);
        Edge.allAre("and one of 1, past it", x, (y, seat) -> y.seat(0, seat, 3), 1, 3, 1);
        x.addColumn(249, 0, 1);
        Edge.allAre("and one of 1, within it", x, (y, seat) -> y.seat(0, seat, 3), 2, 4, 2);
        HallSights z = new HallSights();
        z.addRow(500, 0, 12);
        z.addColumn(250, 11, 5);
        z.addColumn(250, -11, 5);
        z.addColumn(250, 10, 5);
        z.addColumn(250, -10, 5);
        // Lines pass at -5.5 -4.5 .. 5.5; two columns end at 6 and -6, and two at 5 and -5.
        Edge.allAre("a half width of 5", z, (y, seat) -> y.seat(0, seat, 3),
                1, 0, 0, 0, 0, 0, 0, 0, 0, 0, 0, 1);
    }

    /** The seat (1, 0): nobody and nothing, one head, a column, both in its way. */
    private static void sees() {
        HallSights x = Halls.two(10, 0, 20, 0);
        Check.same("with nobody and no column", x.seat(1, 0, 4), 1);
        x.take(0, 0);
        Check.same("with somebody", x.seat(1, 0, 4), 0);
        x.addColumn(15, 0, 0);
        Check.same("with somebody and a column", x.seat(1, 0, 4), 0);
        x.leave(0, 0);
        Check.same("with a column", x.seat(1, 0, 4), 0);
        x.removeColumn(0);
        Check.same("with nobody and no column any more", x.seat(1, 0, 4), 1);
    }

    private static void takenNoMatter() {
        HallSights x = Halls.two(10, 0, 20, 0);
        x.take(1, 0);
        Check.same("a taken seat that sees", x.seat(1, 0, 4), 1);
        x.take(0, 0);
        Check.same("a taken seat that does not", x.seat(1, 0, 4), 0);
        x.leave(1, 0);
        Check.same("a free seat that does not", x.seat(1, 0, 4), 0);
        x.leave(0, 0);
        Check.same("a free seat that sees", x.seat(1, 0, 4), 1);
        Check.same("both see, nobody sits", x.count(4), 2);
    }

    // ---- order of seats

    /**
     * In the way of the row 0 are 0 1 1 0 columns. In the way of the row 1 are a head; a head and
     * two columns; three columns; nothing.
     */
    private static void fewerFirst() {
        HallSights x = new HallSights();
        x.addRow(900, 0, 4);
        x.addRow(999, 0, 4);
        x.take(0, 0);
        x.take(0, 1);
        x.addColumn(450, 0, 1);
        x.addColumn(950, -1, 1);
        x.addColumn(950, 1, 1);
        x.addColumn(950, 1, 1);
        Edge.allAre("columns in the way of the row 0", x, (y, seat) -> y.seat(0, seat, 3),
                0, 1, 1, 0);
        Edge.allAre("columns in the way of the row 1", x, (y, seat) -> y.seat(1, seat, 3),
                0, 2, 3, 0);
        Edge.allAre("people in the way of the row 1", x, (y, seat) -> y.seat(1, seat, 2),
                1, 1, 0, 0);
        Edge.allAre("the place in the row 0", x, (y, seat) -> y.seat(0, seat, 6), 0, 3, 4, 1);
        Edge.allAre("the place in the row 1", x, (y, seat) -> y.seat(1, seat, 6), 5, 6, 7, 2);
    }

    /** A seat far from the side 0 in a lower row goes before one in the middle of a greater row. */
    private static void lowerRowFirst() {
        HallSights x = new HallSights();
        x.addRow(20, 999, 1);
        x.addRow(10, 0, 12);
        Check.same("the last of the row 0", x.seat(0, 11, 6), 11);
        Check.same("the one of the row 1", x.seat(1, 0, 6), 12);
        HallSights large = Halls.large();
        Check.same("the last of the row 8", large.seat(8, 11, 6), 107);
        Check.same("the first of the row 9", large.seat(9, 5, 6), 108);
        Check.same("the last of all", large.seat(9, 11, 6), 119);
    }

    private static void nearerFirst() {
        HallSights x = new HallSights();
        x.addRow(10, 0, 11);
        Edge.allAre("the place in a row of 11", x, (y, seat) -> y.seat(0, seat, 6),
                9, 7, 5, 3, 1, 0, 2, 4, 6, 8, 10);
    }

    private static void lowerNumberFirst() {
        HallSights x = new HallSights();
        x.addRow(10, 0, 12);
        Edge.allAre("the place in a row of 12", x, (y, seat) -> y.seat(0, seat, 6),
                10, 8, 6, 4, 2, 0, 1, 3, 5, 7, 9, 11);
        Check.same("the better one of the two at the ends", x.best(10), 0);
        Check.same("the other one", x.best(11), 11);
    }

    // ---- settings

    private static void setting(int setting, int first, int least, int most) {
        HallSights x = new HallSights();
        Check.same("at first", x.setting(setting), first);
        Check.same("set() to the least", x.set(setting, least), first);
        Check.same("the least", x.setting(setting), least);
        Check.same("set() to the greatest", x.set(setting, most), least);
        Check.same("the greatest", x.setting(setting), most);
        Edge.refusesEach("set()", Edge.ARGUMENT, Halls::busy, (y, value) -> y.set(setting, value),
                least - 1, most + 1, Edge.LEAST, Edge.GREATEST);
    }
}
