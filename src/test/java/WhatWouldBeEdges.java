import java.math.BigInteger;
import java.util.ArrayList;
import java.util.List;

/** Sentences of the promises 25 to 30: least heights, what would be, shares, the digest. */
final class WhatWouldBeEdges {
    private WhatWouldBeEdges() {
    }

    static void all() {
        leastHeight();
        ifLifted();
        ifTaken();
        worstColumn();
        seeingShare();
        digest();
    }

    private static void leastHeight() {
        Sentences.part("Promise 25");
        Sentences.test("Finds the least height of a row.", () -> Edge.looks("leastHeight()", 54,
                Halls::busy, x -> x.leastHeight(1)));
        Sentences.test("`row`: its number", WhatWouldBeEdges::leastOfEachRow);
        Sentences.test("Returns the least height, at least 0", WhatWouldBeEdges::leastOf0);
        Sentences.test("with which no head in a row ahead of it",
                WhatWouldBeEdges::leastPastEachRow);
        Sentences.test("(at their heights as they are, if all seats there were taken)",
                WhatWouldBeEdges::leastOfFreeSeats);
        Sentences.test("would end higher than the sight lines of this row there",
                WhatWouldBeEdges::leastJustAtTheLine);
        Sentences.test("wherever at the side", WhatWouldBeEdges::leastAtEachSide);
        Sentences.test("it can be above 999.", WhatWouldBeEdges::leastAbove999);
        Sentences.test("Throws `IndexOutOfBoundsException` if there is no such row", () -> {
            Edge.refusesEach("leastHeight()", Edge.INDEX, Halls::full,
                    (x, row) -> x.leastHeight(row), -1, 10, Edge.LEAST, Edge.GREATEST);
            Edge.refusesEach("leastHeight()", Edge.INDEX, Halls::busy,
                    (x, row) -> x.leastHeight(row), -1, 4, 5);
            Edge.refuses("leastHeight() of no row", Edge.INDEX, HallSights::new,
                    x -> x.leastHeight(0));
        });
    }

    private static void ifLifted() {
        Sentences.part("Promise 26");
        Sentences.test("Tells how many taken seats would see, if a row was at another height.",
                WhatWouldBeEdges::liftedTells);
        Sentences.test("`row`: its number", WhatWouldBeEdges::liftedRows);
        Sentences.test("`height`: 0 to 999", WhatWouldBeEdges::liftedHeights);
        Sentences.test("Returns how many.", WhatWouldBeEdges::liftedReturns);
        Sentences.test("Throws `IndexOutOfBoundsException` if there is no such row", () -> {
            Edge.refusesEach("ifLifted()", Edge.INDEX, Halls::full,
                    (x, row) -> x.ifLifted(row, 50), -1, 10, Edge.LEAST, Edge.GREATEST);
            Edge.refusesEach("ifLifted()", Edge.INDEX, Halls::busy,
                    (x, row) -> x.ifLifted(row, 50), -1, 4, 5);
        });
        Sentences.test("Throws `IllegalArgumentException` if height is out of range", () ->
                Edge.refusesEach("ifLifted()", Edge.ARGUMENT, Halls::busy,
                        (x, height) -> x.ifLifted(0, height), -1, 1000, Edge.LEAST,
                        Edge.GREATEST));
    }

    private static void ifTaken() {
        Sentences.part("Promise 27");
        Sentences.test("Tells how many taken seats would not see any more.",
                WhatWouldBeEdges::takenTells);
        Sentences.test("`row`: its row", WhatWouldBeEdges::takenRows);
        Sentences.test("`seat`: its number", WhatWouldBeEdges::takenSeats);
        Sentences.test("Returns how many taken seats that see now would not, if somebody took this"
                + " seat", WhatWouldBeEdges::takenReturns);
        Sentences.test("0 if it is taken.", WhatWouldBeEdges::takenAlready);
        Sentences.test("Throws `IndexOutOfBoundsException` if there is no such row or seat", () ->
                PeopleEdges.noSuchSeat("ifTaken()", (x, row, seat) -> x.ifTaken(row, seat)));
    }

    private static void worstColumn() {
        Sentences.part("Promise 28");
        Sentences.test("Finds the column that should be removed.", WhatWouldBeEdges::worstFound);
        Sentences.test("Returns the column without which most seats would see",
                WhatWouldBeEdges::worstOfSeats);
        Sentences.test("of several the lowest number", WhatWouldBeEdges::worstOfSeveral);
        Sentences.test("NONE without columns.", WhatWouldBeEdges::worstOfNone);
    }

    private static void seeingShare() {
        Sentences.part("Promise 29");
        Sentences.test("Returns how many of those who sit see.", WhatWouldBeEdges::shareTells);
        Sentences.test("Returns count(5), as a double, divided by count(3)",
                WhatWouldBeEdges::shareDivided);
        Sentences.test("1.0 if that is 0.", WhatWouldBeEdges::shareOfNobody);
    }

    private static void digest() {
        Sentences.part("Promise 30");
        Sentences.test("Computes a hash of the whole state.", WhatWouldBeEdges::digestTells);
        Sentences.test("The hash starts at 2621.", WhatWouldBeEdges::digestOfNewObject);
        Sentences.test("For each value v of the following list, in order, the hash becomes 31 *"
                + " hash + v, in long arithmetic with overflow.",
                WhatWouldBeEdges::digestOverflows);
        Sentences.test("The values are: count(0) to count(8)", () -> digestIs(Halls::full, ""));
        Sentences.test("the settings 0 to 2", WhatWouldBeEdges::digestOfSettings);
        Sentences.test("for each row its properties 0 to 5, leastHeight, ifLifted to 50",
                WhatWouldBeEdges::digestOfRows);
        Sentences.test("and for each of its seats the properties 0 to 6, whoBlocks, and ifTaken",
                WhatWouldBeEdges::digestOfSeats);
        Sentences.test("for each column its properties 0 to 3",
                () -> digestIs(Halls::fourColumns, ""));
        Sentences.test("best with 0 to 2", WhatWouldBeEdges::digestOfBest);
        Sentences.test("worstColumn", WhatWouldBeEdges::digestOfWorst);
        Sentences.test("the bits of seeingShare (as Double.doubleToLongBits)",
                WhatWouldBeEdges::digestOfShares);
        Sentences.test("the length of the buffer and each of its character codes.",
                WhatWouldBeEdges::digestOfBuffer);
        Sentences.test("Returns the hash.", () -> digestIs(Halls::busy, "50^70*6;60^80*1"));
    }

    // ---- promise 25

    private static void leastOfEachRow() {
        Edge.allAre("leastHeight()", Halls.large(), (x, row) -> x.leastHeight(row),
                0, 13, 13, 13, 13, 13, 13, 13, 13, 13);
        HallSights x = Halls.large();
        x.liftAll();
        Edge.allAre("leastHeight() on steps", x, (y, row) -> y.leastHeight(row),
                0, 13, 26, 39, 52, 65, 78, 91, 104, 117);
    }

    private static void leastOf0() {
        HallSights x = Halls.two(10, 0, 20, 500);
        Check.same("leastHeight() of the row 0", x.leastHeight(0), 0);
        x.lift(0, 999);
        Check.same("leastHeight() of the row 0 at 999", x.leastHeight(0), 0);
        x.lift(0, 0);
        // The eye has to be at 2 * (132 - point), and it is at 120 - point at the height 0.
        x.set(0, 143);
        Check.same("leastHeight() of 1", x.leastHeight(1), 1);
        x.set(0, 144);
        Check.same("leastHeight() of just 0", x.leastHeight(1), 0);
        x.set(0, 145);
        Check.same("leastHeight() that would be -1", x.leastHeight(1), 0);
        x.set(0, 999);
        x.set(1, 1);
        x.set(2, 0);
        Check.same("leastHeight() that would be far below 0", x.leastHeight(1), 0);
    }

    /** Past rows at 10, 20 and 30 the row at 60 needs 6, 3 and 2 times the heads, less 20. */
    private static void leastPastEachRow() {
        HallSights x = new HallSights();
        x.addRow(10, 0, 1);
        x.addRow(20, 0, 1);
        x.addRow(30, 0, 1);
        x.addRow(60, 0, 1);
        x.addRow(70, 999, 1);
        Check.same("leastHeight() past the row 0", x.leastHeight(3), 172);
        x.lift(1, 33);
        Check.same("leastHeight() past the row 1", x.leastHeight(3), 175);
        x.lift(2, 66);
        Check.same("leastHeight() past the row 2", x.leastHeight(3), 176);
        x.lift(3, 999);
        Check.same("leastHeight() of a row that is higher", x.leastHeight(3), 176);
        x.removeRow(2);
        Check.same("leastHeight() past two rows", x.leastHeight(2), 175);
    }

    private static void leastOfFreeSeats() {
        HallSights x = Halls.two(10, 0, 20, 0);
        Check.same("leastHeight() with nobody", x.leastHeight(1), 44);
        x.take(0, 0);
        Check.same("leastHeight() with somebody ahead", x.leastHeight(1), 44);
        x.lift(0, 1);
        Check.same("leastHeight() of a row ahead that is higher", x.leastHeight(1), 46);
        x.addColumn(5, 0, 5);
        Check.same("leastHeight() behind a column", x.leastHeight(1), 46);
    }

    /** With the least height nobody is in the way, with one less somebody is, for all fractions. */
    private static void leastJustAtTheLine() {
        for (int far = 11; far <= 40; far++) {
            for (int point = 40; point <= 240; point += 50) {
                HallSights x = Halls.two(10, 40, far, 0);
                x.take(0, 0);
                x.set(0, point);
                int least = x.leastHeight(1);
                x.lift(1, least);
                Check.same("who is in the way at " + least + " of a row at " + far,
                        x.seat(1, 0, 2), 0);
                x.lift(1, Math.max(0, least - 1));
                Check.same("who is in the way below " + least + " of a row at " + far,
                        x.seat(1, 0, 2), least == 0 ? 0 : 1);
            }
        }
    }

    /** The only head ahead is far from all lines, but the least height counts it. */
    private static void leastAtEachSide() {
        HallSights x = new HallSights();
        x.addRow(10, 0, 12);
        x.addRow(20, 0, 1);
        x.take(0, 0);
        Check.same("who is in the way", x.seat(1, 0, 2), 0);
        Check.same("leastHeight()", x.leastHeight(1), 44);
        x.clear();
        x.removeRow(0);
        x.addRow(10, 0, 1);
        Check.same("leastHeight() past one seat", x.leastHeight(1), 44);
    }

    private static void leastAbove999() {
        HallSights x = Halls.two(998, 985, 999, 0);
        Check.same("leastHeight() of 999", x.leastHeight(1), 999);
        x.lift(0, 986);
        Check.same("leastHeight() of 1000", x.leastHeight(1), 1000);
        HallSights y = Halls.two(1, 999, 999, 0);
        y.set(0, 0);
        y.set(1, 300);
        y.set(2, 100);
        Check.same("leastHeight(), the greatest there is", y.leastHeight(1), 1397301);
    }

    // ---- promise 26

    /** The row 1 sees from 44 on; the row 2, straight behind both, past the row 1 as it is then. */
    private static HallSights threeTaken() {
        HallSights x = new HallSights();
        x.addRow(10, 0, 1);
        x.addRow(20, 0, 1);
        x.addRow(30, 100, 1);
        for (int row = 0; row < 3; row++) {
            x.take(row, 0);
        }
        return x;
    }

    private static void liftedTells() {
        Check.same("who sees", threeTaken().count(5), 2);
        Edge.looks("ifLifted(1, 43)", 2, WhatWouldBeEdges::threeTaken, x -> x.ifLifted(1, 43));
        Edge.looks("ifLifted(1, 44)", 3, WhatWouldBeEdges::threeTaken, x -> x.ifLifted(1, 44));
        // The head in the row 1 ends at the line to the row 2, 120 * 20 / 30, at 48.
        Edge.looks("ifLifted(1, 48)", 3, WhatWouldBeEdges::threeTaken, x -> x.ifLifted(1, 48));
        Edge.looks("ifLifted(1, 49)", 2, WhatWouldBeEdges::threeTaken, x -> x.ifLifted(1, 49));
        HallSights x = threeTaken();
        x.addRow(5, 0, 12);
        Check.same("ifLifted(2, 43) behind free seats that see", x.ifLifted(2, 43), 2);
    }

    private static void liftedRows() {
        Edge.looks("ifLifted() of the first", 1, WhatWouldBeEdges::threeTaken,
                x -> x.ifLifted(0, 999));
        Edge.looks("ifLifted() of the last", 1, WhatWouldBeEdges::threeTaken,
                x -> x.ifLifted(2, 0));
        Edge.looks("ifLifted() of the first of ten", 12, Halls::full, x -> x.ifLifted(0, 999));
        Edge.looks("ifLifted() of the last of ten", 24, Halls::full, x -> x.ifLifted(9, 999));
    }

    private static void liftedHeights() {
        Edge.looks("ifLifted() to 0", 2, WhatWouldBeEdges::threeTaken, x -> x.ifLifted(1, 0));
        Edge.looks("ifLifted() to 999", 2, WhatWouldBeEdges::threeTaken, x -> x.ifLifted(1, 999));
        HallSights x = Halls.two(998, 985, 999, 0);
        x.take(0, 0);
        x.take(1, 0);
        Check.same("ifLifted() to 998", x.ifLifted(1, 998), 1);
        Check.same("ifLifted() to 999", x.ifLifted(1, 999), 2);
        x.lift(1, 13);
        Check.same("ifLifted() of the row 0 to 0", x.ifLifted(0, 0), 2);
        Check.same("ifLifted() of the row 0 to 1", x.ifLifted(0, 1), 1);
    }

    private static void liftedReturns() {
        HallSights x = Halls.full();
        for (int row = 0; row < 10; row++) {
            Check.same("ifLifted() to the height as it is", x.ifLifted(row, 0), 12);
        }
        x.liftAll();
        Check.same("ifLifted() of all that see", x.ifLifted(9, 117), 120);
        Check.same("ifLifted() of a row that would not see", x.ifLifted(9, 116), 108);
        x.addColumn(1, 0, 5);
        Check.same("ifLifted() behind a column", x.ifLifted(9, 999), 0);
        Check.same("ifLifted() of free seats", Halls.large().ifLifted(3, 3), 0);
    }

    // ---- promise 27

    /** Each row sees past the others behind the row 0, but not past a head in the row 0. */
    private static HallSights highRow0() {
        HallSights x = Halls.large();
        x.liftAll();
        x.lift(0, 999);
        for (int row = 1; row < 10; row++) {
            x.take(row, 5);
        }
        return x;
    }

    private static void takenTells() {
        Edge.looks("ifTaken() ahead of nine", 9, WhatWouldBeEdges::highRow0,
                x -> x.ifTaken(0, 5));
        Edge.looks("ifTaken() beside them", 0, WhatWouldBeEdges::highRow0, x -> x.ifTaken(0, 4));
        HallSights x = highRow0();
        int before = x.count(5);
        x.take(0, 5);
        Check.same("who sees still, but for who took it", x.count(5) - 1, before - 9);
    }

    private static void takenRows() {
        HallSights x = Halls.large();
        x.take(5, 5);
        Edge.allAre("ifTaken() in the row", x, (y, row) -> y.ifTaken(row, 5),
                1, 1, 1, 1, 1, 0, 0, 0, 0, 0);
        x.clear();
        x.take(9, 11);
        Edge.allAre("ifTaken() in the row", x, (y, row) -> y.ifTaken(row, 11),
                1, 1, 1, 1, 1, 1, 1, 1, 1, 0);
    }

    private static void takenSeats() {
        HallSights x = Halls.large();
        x.take(9, 0);
        x.take(9, 11);
        Edge.allAre("ifTaken() of the seat", x, (y, seat) -> y.ifTaken(4, seat),
                1, 0, 0, 0, 0, 0, 0, 0, 0, 0, 0, 1);
    }

    private static void takenReturns() {
        HallSights x = highRow0();
        x.take(0, 6);
        x.take(1, 6);
        Check.same("whether one behind the row 0 sees", x.seat(1, 6, 4), 0);
        x.leave(0, 6);
        x.addColumn(1, 0, 5);
        Check.same("ifTaken() of those who do not see now", x.ifTaken(0, 5), 0);
        x.removeColumn(0);
        x.leave(3, 5);
        Check.same("ifTaken() of a free seat behind it, too", x.ifTaken(0, 5), 8);
        HallSights y = Halls.two(10, 0, 20, 0);
        Check.same("ifTaken() of a seat that would not see itself", y.ifTaken(1, 0), 0);
        y.take(0, 0);
        Check.same("ifTaken() behind somebody", y.ifTaken(1, 0), 0);
    }

    private static void takenAlready() {
        HallSights x = highRow0();
        x.take(0, 5);
        Check.same("of how many it is in the way", x.seat(0, 5, 5), 9);
        Check.same("ifTaken() of a taken seat", x.ifTaken(0, 5), 0);
        HallSights y = Halls.full();
        for (int row = 0; row < 10; row++) {
            Check.same("ifTaken() in a full hall", y.ifTaken(row, 11), 0);
        }
    }

    // ---- promise 28

    /** Lines of the only row, at 500, pass 250 at -5.5 -4.5 .. 5.5. */
    private static HallSights columns(int[]... sidesAndHalves) {
        HallSights x = new HallSights();
        x.addRow(500, 0, 12);
        for (int[] column : sidesAndHalves) {
            x.addColumn(250, column[0], column[1]);
        }
        return x;
    }

    private static void worstFound() {
        int[][][] halls = {{{0, 1}}, {{0, 1}, {5, 2}}, {{0, 0}, {5, 1}, {-5, 2}},
            {{0, 0}, {2, 0}, {4, 0}, {-5, 1}}};
        for (int[][] hall : halls) {
            Edge.looks("worstColumn() of " + hall.length, hall.length - 1, () -> columns(hall),
                    x -> x.worstColumn());
        }
    }

    private static void worstOfSeats() {
        // The first hides four seats, of which two are behind the second; the third hides three.
        Check.same("worstColumn() of columns behind each other",
                columns(new int[] {0, 2}, new int[] {1, 1}, new int[] {-5, 1}).worstColumn(), 0);
        Check.same("worstColumn() of a broad one behind two others",
                columns(new int[] {0, 1}, new int[] {0, 1}, new int[] {5, 0}, new int[] {5, 1})
                        .worstColumn(), 3);
        HallSights x = Halls.full();
        x.addColumn(495, -6, 1);
        x.addColumn(990, 0, 5);
        // Behind the second no seat would see, for the people ahead of each.
        Check.same("seats behind the first", x.column(0, 3), 10);
        Check.same("seats behind the second", x.column(1, 3), 54);
        Check.same("worstColumn() of one behind people", x.worstColumn(), 0);
        x.clear();
        Check.same("worstColumn() of free seats", x.worstColumn(), 1);
    }

    private static void worstOfSeveral() {
        Check.same("worstColumn() of four that hide nothing",
                columns(new int[] {0, 0}, new int[] {1, 0}, new int[] {2, 0}, new int[] {3, 0})
                        .worstColumn(), 0);
        Check.same("worstColumn() of four that hide the same",
                columns(new int[] {0, 1}, new int[] {0, 1}, new int[] {0, 1}, new int[] {0, 1})
                        .worstColumn(), 0);
        Check.same("worstColumn() of two that are worse than two others",
                columns(new int[] {0, 0}, new int[] {3, 1}, new int[] {-3, 1}, new int[] {0, 0})
                        .worstColumn(), 1);
        HallSights x = new HallSights();
        x.addColumn(1, 0, 0);
        x.addColumn(1, 0, 5);
        Check.same("worstColumn() without seats", x.worstColumn(), 0);
    }

    private static void worstOfNone() {
        Check.same("worstColumn() of a new object", new HallSights().worstColumn(), Edge.NONE);
        Check.same("worstColumn() of a full hall", Halls.full().worstColumn(), Edge.NONE);
        HallSights x = columns(new int[] {0, 1});
        x.removeColumn(0);
        Check.same("worstColumn() behind removeColumn()", x.worstColumn(), Edge.NONE);
        x.undo();
        Check.same("worstColumn() behind undo()", x.worstColumn(), 0);
    }

    // ---- promise 29

    private static void shareIs(HallSights x, int seeing, int sitting) {
        Check.same("count(5)", x.count(5), seeing);
        Check.same("count(3)", x.count(3), sitting);
        double share = x.seeingShare();
        Check.holds("the share " + share + " is " + seeing + " / " + sitting,
                share == (double) seeing / (double) sitting);
    }

    private static void shareTells() {
        shareIs(Halls.full(), 12, 120);
        HallSights x = threeTaken();
        shareIs(x, 2, 3);
        x.leave(2, 0);
        shareIs(x, 1, 2);
        x.addColumn(1, 0, 0);
        shareIs(x, 0, 2);
        x.removeColumn(0);
        x.leave(0, 0);
        shareIs(x, 1, 1);
    }

    private static void shareDivided() {
        HallSights x = all120But1();
        shareIs(x, 119, 120);
        x.removeColumn(0);
        shareIs(x, 120, 120);
        Check.holds("the share of all is 1.0", x.seeingShare() == 1.0);
        x.addColumn(1, 0, 5);
        shareIs(x, 0, 120);
        Check.holds("the share of none is 0.0", x.seeingShare() == 0.0);
        shareIs(oneOf120(), 1, 120);
        HallSights y = Halls.large();
        y.take(9, 11);
        y.take(8, 11);
        shareIs(y, 1, 2);
        y.take(8, 10);
        shareIs(y, 2, 3);
    }

    /** Of a full hall the row 0 alone sees, and of that one the seat 11, past two columns. */
    private static HallSights oneOf120() {
        HallSights x = Halls.full();
        x.addColumn(495, -5, 5);
        x.addColumn(495, 0, 5);
        return x;
    }

    /** A full hall on its steps; ahead of the row 9 alone a column covers the sides -14 to -10. */
    private static HallSights all120But1() {
        HallSights x = Halls.full();
        x.liftAll();
        x.addColumn(998, -12, 2);
        return x;
    }

    private static void shareOfNobody() {
        Check.holds("the share of a new object is 1.0", new HallSights().seeingShare() == 1.0);
        HallSights x = Halls.large();
        Check.holds("the share of free seats is 1.0", x.seeingShare() == 1.0);
        x.addColumn(1, 0, 5);
        Check.holds("the share of free seats that do not see is 1.0", x.seeingShare() == 1.0);
        x.take(0, 0);
        Check.holds("the share of one who does not see is 0.0", x.seeingShare() == 0.0);
        x.leave(0, 0);
        Check.holds("the share is 1.0 again", x.seeingShare() == 1.0);
    }

    // ---- promise 30

    /** The values of the list that the document tells, from the other calls' answers. */
    private static List<Long> values(Edge.Make make, String buffer) {
        HallSights x = make.hall();
        List<Long> all = new ArrayList<>();
        for (int what = 0; what <= 8; what++) {
            all.add((long) x.count(what));
        }
        for (int setting = 0; setting <= 2; setting++) {
            all.add((long) x.setting(setting));
        }
        for (int row = 0; row < x.count(0); row++) {
            // A hall anew for each row: an object is used for 512 calls only.
            addRow(all, make.hall(), row);
        }
        for (int column = 0; column < x.count(1); column++) {
            for (int what = 0; what <= 3; what++) {
                all.add((long) x.column(column, what));
            }
        }
        for (int place = 0; place <= 2; place++) {
            all.add((long) x.best(place));
        }
        all.add((long) x.worstColumn());
        all.add(Double.doubleToLongBits(x.seeingShare()));
        all.add((long) buffer.length());
        for (int at = 0; at < buffer.length(); at++) {
            all.add((long) buffer.charAt(at));
        }
        return all;
    }

    private static void addRow(List<Long> all, HallSights x, int row) {
        for (int what = 0; what <= 5; what++) {
            all.add((long) x.row(row, what));
        }
        all.add((long) x.leastHeight(row));
        all.add((long) x.ifLifted(row, 50));
        int seats = x.row(row, 2);
        for (int seat = 0; seat < seats; seat++) {
            for (int what = 0; what <= 6; what++) {
                all.add((long) x.seat(row, seat, what));
            }
            all.add((long) x.whoBlocks(row, seat));
            all.add((long) x.ifTaken(row, seat));
        }
    }

    /** The hash without overflow, of which the lowest 64 bits are kept at the end. */
    private static long hash(List<Long> values) {
        BigInteger hash = BigInteger.valueOf(2621);
        for (long value : values) {
            hash = hash.multiply(BigInteger.valueOf(31)).add(BigInteger.valueOf(value));
        }
        return hash.longValue();
    }

    private static void digestIs(Edge.Make make, String buffer) {
        HallSights x = make.hall();
        long due = hash(values(make, buffer));
        Check.same("digest()", x.digest(), due);
        Check.same("digest() once more", x.digest(), due);
    }

    private static void digestTells() {
        long before = Halls.busy().digest();
        Edge.looks("digest()", before, Halls::busy, x -> x.digest());
        Edge.Call[] changes = {x -> x.addRow(999, 0, 1), x -> x.lift(0, 1), x -> x.set(2, 13),
            x -> x.take(3, 1), x -> x.addColumn(999, 0, 0), x -> x.append('5'),
            x -> x.clearBuffer(), x -> x.undo()};
        for (int change = 0; change < changes.length; change++) {
            HallSights x = Halls.busy();
            changes[change].on(x);
            Check.holds("another digest() behind the change " + change, x.digest() != before);
        }
        HallSights x = Halls.busy(3);
        x.set(0, x.setting(0));
        Check.holds("another digest() with another saved state",
                x.digest() != Halls.busy(3).digest());
    }

    private static void digestOfNewObject() {
        long[] values = {0, 0, 0, 0, 0, 0, 0, 0, 0, 100, 120, 12, -1, -1, -1, -1,
            4607182418800017408L, 0};
        long hash = 2621;
        for (long value : values) {
            hash = 31 * hash + value;
        }
        Check.same("digest() of a new object", new HallSights().digest(), hash);
    }

    /** A hall with the greatest least height, and its settings at one end of their ranges. */
    private static HallSights greatest() {
        HallSights x = Halls.two(1, 999, 999, 0);
        x.set(0, 0);
        x.set(1, 300);
        x.set(2, 100);
        return x;
    }

    /** The hash of a new object is past 64 bits already; a full hall's wraps around many times. */
    private static void digestOverflows() {
        digestIs(HallSights::new, "");
        digestIs(Halls::full, "");
        digestIs(WhatWouldBeEdges::greatest, "");
    }

    private static void digestOfSettings() {
        digestIs(WhatWouldBeEdges::greatest, "");
        digestIs(() -> {
            HallSights x = new HallSights();
            x.set(0, 999);
            x.set(1, 1);
            x.set(2, 0);
            return x;
        }, "");
    }

    /** The row 1 sees from 50 on, and from 51 on. */
    private static void digestOfRows() {
        int[][] halls = {{10, 3, 20, 50}, {20, 1, 43, 51}};
        for (int[] hall : halls) {
            Edge.Make make = () -> {
                HallSights x = Halls.two(hall[0], hall[1], hall[2], 0);
                x.take(0, 0);
                x.take(1, 0);
                return x;
            };
            Check.same("leastHeight(1)", make.hall().leastHeight(1), hall[3]);
            Check.same("ifLifted(1, 50)", make.hall().ifLifted(1, 50), hall[3] == 50 ? 2 : 1);
            digestIs(make, "");
        }
        digestIs(() -> Halls.two(10, 999, 20, 0), "");
    }

    private static void digestOfSeats() {
        digestIs(WhatWouldBeEdges::highRow0, "");
        digestIs(Halls::large, "");
        digestIs(WhatWouldBeEdges::threeTaken, "");
    }

    private static void digestOfBest() {
        for (int seats = 1; seats <= 4; seats++) {
            int many = seats;
            Edge.Make make = () -> {
                HallSights x = new HallSights();
                x.addRow(10, 0, many);
                return x;
            };
            digestIs(make, "");
            digestIs(() -> {
                HallSights x = make.hall();
                x.take(0, 0);
                return x;
            }, "");
        }
    }

    private static void digestOfWorst() {
        digestIs(() -> columns(new int[] {0, 0}, new int[] {5, 1}, new int[] {-5, 2}), "");
        digestIs(() -> columns(new int[] {0, 0}), "");
        digestIs(() -> columns(), "");
    }

    private static void digestOfShares() {
        digestIs(WhatWouldBeEdges::oneOf120, "");
        digestIs(WhatWouldBeEdges::all120But1, "");
        digestIs(() -> {
            HallSights x = Halls.full();
            x.addColumn(1, 0, 5);
            return x;
        }, "");
        digestIs(WhatWouldBeEdges::threeTaken, "");
    }

    private static void digestOfBuffer() {
        String[] texts = {"", "!", "~", "5^0*1", "~!~!~", "!~".repeat(30)};
        for (String text : texts) {
            digestIs(() -> Halls.withText(text), text);
        }
        digestIs(() -> {
            HallSights x = Halls.withText("5^0*1;6^0*1");
            x.clearBuffer();
            x.append('7');
            return x;
        }, "7");
    }
}
