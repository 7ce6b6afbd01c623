/** Sentences of the promises 18 to 24: rows, seats and columns, the order of seats, counts. */
final class LookEdges {
    private LookEdges() {
    }

    static void all() {
        row();
        seat();
        column();
        best();
        whoBlocks();
        count();
        setting();
    }

    private static void row() {
        Sentences.part("Promise 18");
        Sentences.test("Returns a property of a row.", () -> Edge.looks("row()", 20, Halls::busy,
                x -> x.row(1, 0)));
        Sentences.test("`row`: its number", LookEdges::rowNumber);
        Sentences.test("0: its distance", LookEdges::rowDistance);
        Sentences.test("1: its height", LookEdges::rowHeight);
        Sentences.test("2: its seats", LookEdges::rowSeats);
        Sentences.test("3: those that are taken", LookEdges::rowTaken);
        Sentences.test("4: those that see", LookEdges::rowSeeing);
        Sentences.test("5: by how much it is higher than the row ahead of it (below 0 if it is"
                + " lower), its height for the row 0", LookEdges::rowStep);
        Sentences.test("Returns the property.", LookEdges::rowProperties);
        Sentences.test("Throws `IndexOutOfBoundsException` if there is no such row", () -> {
            Edge.refusesEach("row() of 10", Edge.INDEX, Halls::full, (x, row) -> x.row(row, 0),
                    -1, 10, Edge.LEAST, Edge.GREATEST);
            Edge.refusesEach("row() of 4", Edge.INDEX, Halls::busy, (x, row) -> x.row(row, 5),
                    -1, 4, 5);
        });
        Sentences.test("Throws `IllegalArgumentException` if what is not 0 to 5", () ->
                Edge.refusesEach("row()", Edge.ARGUMENT, Halls::busy, (x, what) -> x.row(0, what),
                        -1, 6, Edge.LEAST, Edge.GREATEST));
    }

    private static void seat() {
        Sentences.part("Promise 19");
        Sentences.test("Returns a property of a seat.", () -> Edge.looks("seat()", 4,
                Halls::busy, x -> x.seat(1, 4, 0)));
        Sentences.test("`row`: its row", LookEdges::seatRow);
        Sentences.test("`seat`: its number", LookEdges::seatNumber);
        Sentences.test("0: its side", LookEdges::seatSide);
        Sentences.test("1: 1 if it is taken, otherwise 0", LookEdges::seatTaken);
        Sentences.test("2: how many people are in its way", LookEdges::seatPeople);
        Sentences.test("3: how many columns are", LookEdges::seatColumns);
        Sentences.test("4: 1 if it sees, otherwise 0", LookEdges::seatSees);
        Sentences.test("5: of how many taken seats somebody in it is or would be in the way",
                LookEdges::seatInTheWay);
        Sentences.test("6: its place in the order of all seats, from 0", LookEdges::seatPlace);
        Sentences.test("Returns the property.", LookEdges::seatProperties);
        Sentences.test("Throws `IndexOutOfBoundsException` if there is no such row or seat", () ->
                PeopleEdges.noSuchSeat("seat()", (x, row, seat) -> x.seat(row, seat, 0)));
        Sentences.test("Throws `IllegalArgumentException` if what is not 0 to 6", () ->
                Edge.refusesEach("seat()", Edge.ARGUMENT, Halls::busy,
                        (x, what) -> x.seat(0, 0, what), -1, 7, Edge.LEAST, Edge.GREATEST));
    }

    private static void column() {
        Sentences.part("Promise 20");
        Sentences.test("Returns a property of a column.", () -> Edge.looks("column()", 15,
                Halls::busy, x -> x.column(0, 0)));
        Sentences.test("`column`: its number", LookEdges::columnNumber);
        Sentences.test("0: its distance", () -> columnProperty(0, 1, 999));
        Sentences.test("1: its side", () -> columnProperty(1, -12, 12));
        Sentences.test("2: its half width", () -> columnProperty(2, 0, 5));
        Sentences.test("3: of how many seats it is in the way", LookEdges::columnSeats);
        Sentences.test("Returns the property.", LookEdges::columnProperties);
        Sentences.test("Throws `IndexOutOfBoundsException` if there is no such column", () -> {
            Edge.refusesEach("column() of 4", Edge.INDEX, Halls::fourColumns,
                    (x, column) -> x.column(column, 3), -1, 4, Edge.LEAST, Edge.GREATEST);
            Edge.refusesEach("column() of 2", Edge.INDEX, Halls::busy,
                    (x, column) -> x.column(column, 0), -1, 2, 3);
            Edge.refuses("column() of none", Edge.INDEX, Halls::full, x -> x.column(0, 0));
        });
        Sentences.test("Throws `IllegalArgumentException` if what is not 0 to 3", () ->
                Edge.refusesEach("column()", Edge.ARGUMENT, Halls::busy,
                        (x, what) -> x.column(0, what), -1, 4, Edge.LEAST, Edge.GREATEST));
    }

    private static void best() {
        Sentences.part("Promise 21");
        Sentences.test("Returns a free seat by the order of seats.", LookEdges::bestOfFree);
        Sentences.test("`place`: its place among the free seats, from 0", LookEdges::bestPlace);
        Sentences.test("Returns 100 * its row and its number", LookEdges::bestReturns);
        Sentences.test("NONE if there are not so many.", LookEdges::bestNone);
        Sentences.test("Throws `IllegalArgumentException` if place is below 0", () -> {
            Edge.refusesEach("best()", Edge.ARGUMENT, Halls::busy, (x, place) -> x.best(place),
                    -1, -2, Edge.LEAST);
            Edge.refuses("best(-1) without seats", Edge.ARGUMENT, HallSights::new,
                    x -> x.best(-1));
        });
    }

    private static void whoBlocks() {
        Sentences.part("Promise 22");
        Sentences.test("Finds somebody in the way of a seat.", LookEdges::blockedByOne);
        Sentences.test("`row`: its row", LookEdges::blockedInEachRow);
        Sentences.test("`seat`: its number", LookEdges::blockedOnEachSeat);
        Sentences.test("Returns 100 * the row and the seat of that one: who sits in the greatest"
                + " row", LookEdges::greatestRow);
        Sentences.test("of several the lowest seat", LookEdges::neverSeveral);
        Sentences.test("NONE if nobody is in its way.", LookEdges::blockedByNobody);
        Sentences.test("Throws `IndexOutOfBoundsException` if there is no such row or seat", () ->
                PeopleEdges.noSuchSeat("whoBlocks()", (x, row, seat) -> x.whoBlocks(row, seat)));
    }

    private static void count() {
        Sentences.part("Promise 23");
        Sentences.test("Returns a number.", () -> Edge.looks("count()", 4, Halls::busy,
                x -> x.count(0)));
        Sentences.test("0: rows", () -> counts(0, 0, 10, 10, 4));
        Sentences.test("1: columns", LookEdges::countColumns);
        Sentences.test("2: seats", () -> counts(2, 0, 120, 120, 14));
        Sentences.test("3: taken ones", () -> counts(3, 0, 0, 120, 3));
        Sentences.test("4: seats that see", LookEdges::countSeeing);
        Sentences.test("5: taken ones that see", LookEdges::countTakenSeeing);
        Sentences.test("6: pairs of a taken seat and somebody in its way", LookEdges::countPairs);
        Sentences.test("7: the longest row of free seats side by side, how many",
                LookEdges::countLongest);
        Sentences.test("8: saved states", () -> counts(8, 0, 6, 6, 6));
        Sentences.test("Returns the number.", LookEdges::countProperties);
        Sentences.test("Throws `IllegalArgumentException` if what is not 0 to 8", () ->
                Edge.refusesEach("count()", Edge.ARGUMENT, Halls::busy, (x, what) -> x.count(what),
                        -1, 9, Edge.LEAST, Edge.GREATEST));
    }

    private static void setting() {
        Sentences.part("Promise 24");
        Sentences.test("Returns a setting.", () -> Edge.looks("setting()", 90, Halls::busy,
                x -> x.setting(0)));
        Sentences.test("`setting`: 0 to 2", () -> Edge.allAre("setting()", new HallSights(),
                (x, setting) -> x.setting(setting), 100, 120, 12));
        Sentences.test("Returns its value.", LookEdges::settingValues);
        Sentences.test("Throws `IndexOutOfBoundsException` if there is no such setting", () ->
                Edge.refusesEach("setting()", Edge.INDEX, Halls::busy,
                        (x, setting) -> x.setting(setting), -1, 3, Edge.LEAST, Edge.GREATEST));
    }

    // ---- promise 18

    private static void rowNumber() {
        HallSights x = Halls.large();
        Check.same("row(0, 0)", x.row(0, 0), 990);
        Check.same("row(9, 0)", x.row(9, 0), 999);
    }

    private static void rowDistance() {
        HallSights x = Halls.two(1, 5, 999, 6);
        Check.same("row(0, 0)", x.row(0, 0), 1);
        Check.same("row(1, 0)", x.row(1, 0), 999);
    }

    private static void rowHeight() {
        HallSights x = Halls.two(1, 0, 999, 999);
        Check.same("row(0, 1)", x.row(0, 1), 0);
        Check.same("row(1, 1)", x.row(1, 1), 999);
    }

    private static void rowSeats() {
        HallSights x = new HallSights();
        x.addRow(10, 0, 1);
        x.addRow(20, 0, 12);
        Check.same("row(0, 2)", x.row(0, 2), 1);
        Check.same("row(1, 2)", x.row(1, 2), 12);
        x.seatParty(12);
        Check.same("row(1, 2) of taken seats", x.row(1, 2), 12);
    }

    private static void rowTaken() {
        HallSights x = Halls.large();
        Check.same("row(9, 3) of free seats", x.row(9, 3), 0);
        for (int seat = 0; seat < 12; seat++) {
            x.take(9, seat);
            Check.same("row(9, 3)", x.row(9, 3), seat + 1);
        }
        Check.same("row(8, 3)", x.row(8, 3), 0);
    }

    private static void rowSeeing() {
        HallSights x = Halls.full();
        Check.same("row(0, 4)", x.row(0, 4), 12);
        Check.same("row(1, 4)", x.row(1, 4), 0);
        x.clear();
        Check.same("row(1, 4) of free seats", x.row(1, 4), 12);
        x.take(0, 11);
        Check.same("row(1, 4) behind one", x.row(1, 4), 11);
        Check.same("row(9, 4) behind one", x.row(9, 4), 11);
        x.addColumn(1, 0, 5);
        Check.same("row(1, 4) behind a column", x.row(1, 4), 0);
    }

    private static void rowStep() {
        HallSights x = new HallSights();
        x.addRow(10, 999, 1);
        x.addRow(20, 0, 1);
        x.addRow(30, 999, 1);
        x.addRow(40, 999, 1);
        x.addRow(50, 998, 1);
        Edge.allAre("row(.., 5)", x, (y, row) -> y.row(row, 5), 999, -999, 999, 0, -1);
        x.removeRow(0);
        Check.same("row(0, 5) of the row that is first then", x.row(0, 5), 0);
    }

    private static void rowProperties() {
        Edge.allAre("row(1, ..)", Halls.busy(), (x, what) -> x.row(1, what), 20, 12, 5, 1, 3, 12);
    }

    // ---- promise 19

    private static void seatRow() {
        HallSights x = Halls.full();
        for (int row = 0; row < 10; row++) {
            Check.same("seat(" + row + ", 0, 2)", x.seat(row, 0, 2), row);
        }
    }

    private static void seatNumber() {
        HallSights x = Halls.large();
        x.take(9, 0);
        x.take(8, 11);
        Check.same("seat(9, 0, 1)", x.seat(9, 0, 1), 1);
        Check.same("seat(9, 11, 1)", x.seat(9, 11, 1), 0);
        Check.same("seat(8, 11, 1)", x.seat(8, 11, 1), 1);
        Check.same("seat(8, 0, 1)", x.seat(8, 0, 1), 0);
    }

    private static void seatSide() {
        HallSights x = new HallSights();
        x.addRow(10, 0, 1);
        x.addRow(20, 0, 2);
        x.addRow(30, 0, 12);
        Check.same("seat(0, 0, 0)", x.seat(0, 0, 0), 0);
        Edge.allAre("seat(1, .., 0)", x, (y, seat) -> y.seat(1, seat, 0), -1, 1);
        Check.same("seat(2, 0, 0)", x.seat(2, 0, 0), -11);
        Check.same("seat(2, 11, 0)", x.seat(2, 11, 0), 11);
    }

    private static void seatTaken() {
        HallSights x = Halls.busy();
        Edge.allAre("seat(2, .., 1)", x, (y, seat) -> y.seat(2, seat, 1), 1, 0, 1);
        x.leave(2, 0);
        Edge.allAre("seat(2, .., 1)", x, (y, seat) -> y.seat(2, seat, 1), 0, 0, 1);
    }

    private static void seatPeople() {
        HallSights x = Halls.full();
        Check.same("seat(9, 11, 2)", x.seat(9, 11, 2), 9);
        Check.same("seat(0, 11, 2)", x.seat(0, 11, 2), 0);
        x.addColumn(1, 0, 5);
        Check.same("seat(9, 11, 2) behind a column", x.seat(9, 11, 2), 9);
        x.leave(9, 11);
        Check.same("seat(9, 11, 2) of a free seat", x.seat(9, 11, 2), 9);
        x.clear();
        Check.same("seat(9, 11, 2) with nobody", x.seat(9, 11, 2), 0);
    }

    private static void seatColumns() {
        HallSights x = Halls.full();
        for (int column = 0; column < 4; column++) {
            Check.same("seat(9, 0, 3)", x.seat(9, 0, 3), column);
            x.addColumn(1, 0, 5);
        }
        Check.same("seat(9, 0, 3)", x.seat(9, 0, 3), 4);
        Check.same("seat(0, 0, 3)", x.seat(0, 0, 3), 4);
        HallSights y = Halls.fourColumns();
        Check.same("seat(0, 5, 3) of columns behind it", y.seat(0, 5, 3), 0);
    }

    private static void seatSees() {
        HallSights x = Halls.full();
        Check.same("seat(0, 0, 4) of a taken seat", x.seat(0, 0, 4), 1);
        Check.same("seat(1, 0, 4) of a taken seat", x.seat(1, 0, 4), 0);
        x.leave(0, 0);
        Check.same("seat(0, 0, 4) of a free seat", x.seat(0, 0, 4), 1);
        Check.same("seat(1, 0, 4) with nobody ahead", x.seat(1, 0, 4), 1);
        x.leave(2, 0);
        Check.same("seat(2, 0, 4) of a free seat", x.seat(2, 0, 4), 0);
    }

    private static void seatInTheWay() {
        HallSights x = Halls.full();
        Check.same("seat(0, 5, 5) ahead of nine", x.seat(0, 5, 5), 9);
        Check.same("seat(9, 5, 5) ahead of nobody", x.seat(9, 5, 5), 0);
        x.leave(0, 5);
        Check.same("seat(0, 5, 5) when it is free", x.seat(0, 5, 5), 9);
        x.leave(7, 5);
        Check.same("seat(0, 5, 5) ahead of eight", x.seat(0, 5, 5), 8);
        x.addColumn(1, 0, 5);
        Check.same("seat(0, 5, 5) ahead of eight behind a column", x.seat(0, 5, 5), 8);
        x.clear();
        Check.same("seat(0, 5, 5) ahead of free seats", x.seat(0, 5, 5), 0);
    }

    private static void seatPlace() {
        HallSights x = Halls.large();
        Check.same("seat(0, 5, 6), the first", x.seat(0, 5, 6), 0);
        Check.same("seat(9, 11, 6), the last", x.seat(9, 11, 6), 119);
        x.take(0, 5);
        Check.same("seat(0, 5, 6) of a taken seat", x.seat(0, 5, 6), 0);
        // Behind it one seat of each row goes behind all that see.
        Check.same("seat(1, 5, 6) behind somebody", x.seat(1, 5, 6), 111);
        Check.same("seat(9, 5, 6) behind somebody", x.seat(9, 5, 6), 119);
        Check.same("seat(9, 11, 6)", x.seat(9, 11, 6), 110);
        HallSights y = new HallSights();
        y.addRow(10, 0, 1);
        Check.same("seat(0, 0, 6) of the only seat", y.seat(0, 0, 6), 0);
    }

    private static void seatProperties() {
        HallSights x = Halls.full();
        x.addColumn(1, 0, 5);
        Edge.allAre("seat(4, 0, ..)", x, (y, what) -> y.seat(4, 0, what), -11, 1, 4, 1, 0, 5, 58);
    }

    // ---- promise 20

    private static void columnNumber() {
        HallSights x = Halls.fourColumns();
        Check.same("column(0, 0)", x.column(0, 0), 20);
        Check.same("column(3, 0)", x.column(3, 0), 23);
    }

    private static void columnProperty(int what, int least, int most) {
        int[] low = {7, 2, 3};
        int[] high = {7, 2, 3};
        low[what] = least;
        high[what] = most;
        HallSights x = new HallSights();
        x.addColumn(low[0], low[1], low[2]);
        x.addColumn(high[0], high[1], high[2]);
        Check.same("the least", x.column(0, what), least);
        Check.same("the greatest", x.column(1, what), most);
    }

    private static void columnSeats() {
        HallSights x = Halls.large();
        x.addColumn(1, 0, 5);
        Check.same("column(0, 3) of one near the point", x.column(0, 3), 120);
        x.addColumn(990, 0, 5);
        // Lines pass it at nearly the sides of their seats: -5 -3 -1 1 3 5 are within.
        Check.same("column(1, 3) of one where the row 0 is", x.column(1, 3), 54);
        x.addColumn(998, 0, 5);
        Check.same("column(2, 3) of one ahead of the row 9 alone", x.column(2, 3), 6);
        x.addColumn(999, 0, 5);
        Check.same("column(3, 3) of one behind all", x.column(3, 3), 0);
        x.seatParty(12);
        Check.same("column(0, 3) of taken seats too", x.column(0, 3), 120);
        HallSights y = new HallSights();
        y.addColumn(1, 0, 5);
        Check.same("column(0, 3) without seats", y.column(0, 3), 0);
    }

    private static void columnProperties() {
        HallSights x = new HallSights();
        x.addRow(20, 0, 12);
        x.addColumn(10, 3, 2);
        // Lines pass it at -5.5 .. 5.5: 1.5 2.5 3.5 4.5 are within 1 to 5.
        Edge.allAre("column(0, ..)", x, (y, what) -> y.column(0, what), 10, 3, 2, 4);
    }

    // ---- promise 21

    private static void bestOfFree() {
        HallSights x = Halls.large();
        Check.same("best(0)", x.best(0), 5);
        x.take(0, 5);
        Check.same("best(0) when the best one is taken", x.best(0), 6);
        for (int seat = 0; seat < 12; seat++) {
            if (seat != 5) {
                x.take(0, seat);
            }
        }
        Check.same("best(0) when the row 0 is taken", x.best(0), 105);
        x.leave(0, 11);
        Check.same("best(0) when a seat of the row 0 is free", x.best(0), 11);
        x.lift(1, 999);
        Check.same("best(1) of a row that sees above heads", x.best(1), 105);
    }

    private static void bestPlace() {
        HallSights x = new HallSights();
        x.addRow(10, 0, 5);
        x.take(0, 1);
        Edge.allAre("best()", x, (y, place) -> y.best(place), 2, 3, 0, 4, Edge.NONE);
        Check.same("the place of the seat 3 among all", x.seat(0, 3, 6), 2);
    }

    private static void bestReturns() {
        HallSights x = Halls.full();
        x.leave(9, 11);
        Check.same("best(0)", x.best(0), 911);
        x.leave(0, 0);
        Check.same("best(0)", x.best(0), 0);
        Check.same("best(1)", x.best(1), 911);
    }

    private static void bestNone() {
        Check.same("best(0) without rows", new HallSights().best(0), Edge.NONE);
        Check.same("best(0) in a full hall", Halls.full().best(0), Edge.NONE);
        HallSights x = Halls.large();
        Check.same("best(119)", x.best(119), 911);
        Check.same("best(120)", x.best(120), Edge.NONE);
        Check.same("best(greatest)", x.best(Edge.GREATEST), Edge.NONE);
        x.take(0, 0);
        Check.holds("best(118) is a seat", x.best(118) != Edge.NONE);
        Check.same("best(119)", x.best(119), Edge.NONE);
    }

    // ---- promise 22

    private static void blockedByOne() {
        HallSights x = Halls.large();
        x.take(3, 7);
        Check.same("whoBlocks(9, 7)", x.whoBlocks(9, 7), 307);
        Check.same("whoBlocks(4, 7)", x.whoBlocks(4, 7), 307);
        Check.same("whoBlocks(3, 7)", x.whoBlocks(3, 7), Edge.NONE);
        Check.same("whoBlocks(2, 7)", x.whoBlocks(2, 7), Edge.NONE);
        Check.same("whoBlocks(9, 6)", x.whoBlocks(9, 6), Edge.NONE);
        Edge.looks("whoBlocks()", 805, Halls::full, y -> y.whoBlocks(9, 5));
    }

    private static void blockedInEachRow() {
        HallSights x = Halls.full();
        for (int row = 1; row < 10; row++) {
            Check.same("whoBlocks(" + row + ", 0)", x.whoBlocks(row, 0), 100 * (row - 1));
        }
    }

    private static void blockedOnEachSeat() {
        HallSights x = Halls.full();
        for (int seat = 0; seat < 12; seat++) {
            Check.same("whoBlocks(9, " + seat + ")", x.whoBlocks(9, seat), 800 + seat);
        }
    }

    private static void greatestRow() {
        HallSights x = Halls.full();
        for (int row = 8; row >= 0; row--) {
            Check.same("whoBlocks(9, 11)", x.whoBlocks(9, 11), 100 * row + 11);
            x.leave(row, 11);
        }
        Check.same("whoBlocks(9, 11)", x.whoBlocks(9, 11), Edge.NONE);
        HallSights y = Halls.full();
        y.lift(9, 200);
        y.lift(2, 900);
        Check.same("whoBlocks(9, 11) of the one that is high", y.whoBlocks(9, 11), 211);
    }

    /** Seats of a row are 2 apart: no two of them are within less than 1 of a line. */
    private static void neverSeveral() {
        for (int near = 1; near < 40; near++) {
            HallSights x = new HallSights();
            x.addRow(near, 999, 11 + near % 2);
            x.addRow(40, 0, 12);
            x.seatParty(x.row(0, 2));
            for (int seat = 0; seat < 12; seat++) {
                int people = x.seat(1, seat, 2);
                Check.holds("that at most one of a row is in the way of the seat " + seat,
                        people <= 1);
                Check.same("that whoBlocks() tells of one just if there is one",
                        x.whoBlocks(1, seat) == Edge.NONE ? 0 : 1, people);
            }
        }
    }

    private static void blockedByNobody() {
        HallSights x = Halls.full();
        Check.same("whoBlocks(0, 0)", x.whoBlocks(0, 0), Edge.NONE);
        x.addColumn(1, 0, 5);
        Check.same("whoBlocks(0, 0) behind a column", x.whoBlocks(0, 0), Edge.NONE);
        x.clear();
        Check.same("whoBlocks(9, 11) of free seats", x.whoBlocks(9, 11), Edge.NONE);
    }

    // ---- promise 23

    /** The number of a new object, a large hall, a full one, a busy one. */
    private static void counts(int what, int empty, int large, int full, int busy) {
        Check.same("count() of a new object", new HallSights().count(what), empty);
        Check.same("count() of a large hall", Halls.large().count(what), large);
        Check.same("count() of a full hall", Halls.full().count(what), full);
        Check.same("count() of a busy hall", Halls.busy().count(what), busy);
    }

    private static void countColumns() {
        counts(1, 0, 0, 0, 2);
        Check.same("count() of four columns", Halls.fourColumns().count(1), 4);
    }

    private static void countSeeing() {
        Check.same("count() of a new object", new HallSights().count(4), 0);
        Check.same("count() of a large hall", Halls.large().count(4), 120);
        HallSights x = Halls.full();
        Check.same("count() of a full hall", x.count(4), 12);
        x.liftAll();
        Check.same("count() of a full hall on its steps", x.count(4), 120);
        x.addColumn(1, 0, 5);
        Check.same("count() behind a column", x.count(4), 0);
    }

    private static void countTakenSeeing() {
        Check.same("count() of a new object", new HallSights().count(5), 0);
        HallSights x = Halls.large();
        Check.same("count() of free seats", x.count(5), 0);
        x.take(9, 11);
        Check.same("count() of one that sees", x.count(5), 1);
        x.take(8, 11);
        Check.same("count() of one that sees and one that does not", x.count(5), 1);
        HallSights y = Halls.full();
        Check.same("count() of a full hall", y.count(5), 12);
        y.liftAll();
        Check.same("count() of a full hall on its steps", y.count(5), 120);
    }

    private static void countPairs() {
        Check.same("count() of a new object", new HallSights().count(6), 0);
        HallSights x = Halls.full();
        // Each column of 10 seats has 9 + 8 + .. + 1 pairs.
        Check.same("count() of a full hall", x.count(6), 540);
        x.leave(9, 0);
        Check.same("count() when a seat behind 9 is free", x.count(6), 531);
        x.leave(0, 1);
        Check.same("count() when a seat ahead of 9 is free", x.count(6), 522);
        x.addColumn(1, 0, 5);
        Check.same("count() with a column", x.count(6), 522);
        x.liftAll();
        Check.same("count() on steps", x.count(6), 0);
    }

    private static void countLongest() {
        Check.same("count() without rows", new HallSights().count(7), 0);
        Check.same("count() of free rows", Halls.large().count(7), 12);
        HallSights x = Halls.full();
        Check.same("count() of a full hall", x.count(7), 0);
        x.leave(9, 11);
        x.leave(0, 0);
        Check.same("count() of single seats", x.count(7), 1);
        x.leave(9, 0);
        x.leave(8, 11);
        Check.same("count() of seats at ends of rows, not side by side", x.count(7), 1);
        x.leave(5, 5);
        x.leave(5, 7);
        Check.same("count() of seats with one between them", x.count(7), 1);
        x.leave(5, 6);
        Check.same("count() of three in the middle", x.count(7), 3);
        for (int seat = 8; seat < 12; seat++) {
            x.leave(3, seat);
        }
        Check.same("count() of four at the end", x.count(7), 4);
        for (int seat = 0; seat < 5; seat++) {
            x.leave(7, seat);
        }
        Check.same("count() of five at the beginning", x.count(7), 5);
        for (int seat = 1; seat < 6; seat++) {
            x.leave(0, seat);
        }
        Check.same("count() of six in the row 0", x.count(7), 6);
        x.leave(9, 1);
        for (int seat = 5; seat < 11; seat++) {
            x.leave(9, seat);
        }
        Check.same("count() of seven in the row 9", x.count(7), 7);
    }

    private static void countProperties() {
        Edge.allAre("count()", Halls.full(), (x, what) -> x.count(what),
                10, 0, 120, 120, 12, 12, 540, 0, 6);
    }

    // ---- promise 24

    private static void settingValues() {
        HallSights x = new HallSights();
        x.set(0, 999);
        x.set(1, 1);
        x.set(2, 100);
        Edge.allAre("setting()", x, (y, setting) -> y.setting(setting), 999, 1, 100);
        x.undo();
        Check.same("setting(2) behind undo()", x.setting(2), 12);
    }
}
