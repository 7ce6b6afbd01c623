/** Sentences of the promises 8 to 12: people, parties, rows that are lifted. */
final class PeopleEdges {
    private PeopleEdges() {
    }

    static void all() {
        take();
        leave();
        seatParty();
        clear();
        liftAll();
    }

    private static void take() {
        Sentences.part("Promise 8");
        Sentences.test("Somebody takes a seat.", PeopleEdges::takeOne);
        Sentences.test("Undoable.", () -> {
            Edge.undoable("take() of the first", x -> x.take(0, 0));
            Edge.undoable("take() of the last", x -> x.take(1, 4));
        });
        Sentences.test("`row`: its row", PeopleEdges::takeInEachRow);
        Sentences.test("`seat`: its number", PeopleEdges::takeEachSeat);
        Sentences.test("Returns how many people (columns do not count) are in the way of this"
                + " seat.", PeopleEdges::takeReturns);
        Sentences.test("Throws `IndexOutOfBoundsException` if there is no such row or seat",
                () -> noSuchSeat("take()", (x, row, seat) -> x.take(row, seat)));
        Sentences.test("Throws `IllegalStateException` if it is taken", PeopleEdges::takeTaken);
    }

    private static void leave() {
        Sentences.part("Promise 9");
        Sentences.test("Somebody leaves a seat.", PeopleEdges::leaveOne);
        Sentences.test("Undoable.", () -> Edge.undoable("leave()", x -> x.leave(2, 0)));
        Sentences.test("`row`: its row", PeopleEdges::leaveEachRow);
        Sentences.test("`seat`: its number", PeopleEdges::leaveEachSeat);
        Sentences.test("Returns how many seats are taken then.", PeopleEdges::leaveReturns);
        Sentences.test("Throws `IndexOutOfBoundsException` if there is no such row or seat",
                () -> noSuchSeat("leave()", (x, row, seat) -> x.leave(row, seat)));
        Sentences.test("Throws `IllegalStateException` if it is free", PeopleEdges::leaveFree);
    }

    private static void seatParty() {
        Sentences.part("Promise 10");
        Sentences.test("Seats a party side by side in one row", PeopleEdges::sideBySide);
        Sentences.test("on free seats", PeopleEdges::onFreeSeats);
        Sentences.test("where the number of all (people and columns, seat by seat) in the way of"
                + " these seats is least", PeopleEdges::leastInTheWay);
        Sentences.test("of several in the lowest row", PeopleEdges::lowestRow);
        Sentences.test("of these from the lowest seat on", PeopleEdges::lowestSeat);
        Sentences.test("(Looked for ahead of anybody of it sitting down.)",
                PeopleEdges::lookedForAhead);
        Sentences.test("Undoable.", () -> {
            Edge.undoable("seatParty(1)", x -> x.seatParty(1));
            Edge.undoable("seatParty(2)", x -> x.seatParty(2));
        });
        Sentences.test("`many`: 1 to 12", PeopleEdges::manyAreSeated);
        Sentences.test("Returns 100 * the row and the first seat.", PeopleEdges::partyReturns);
        Sentences.test("Throws `IllegalArgumentException` if many is out of range", () -> {
            Edge.refusesEach("seatParty()", Edge.ARGUMENT, Halls::large,
                    (x, many) -> x.seatParty(many), 0, 13, -1, Edge.LEAST, Edge.GREATEST);
            Edge.refusesEach("seatParty()", Edge.ARGUMENT, Halls::busy,
                    (x, many) -> x.seatParty(many), 0, 13, 32, 33);
        });
        Sentences.test("Throws `IllegalStateException` if there are not so many free seats side by"
                + " side", PeopleEdges::notSoMany);
    }

    private static void clear() {
        Sentences.part("Promise 11");
        Sentences.test("All leave their seats.", PeopleEdges::allLeave);
        Sentences.test("Undoable.", PeopleEdges::clearUndone);
        Sentences.test("Returns how many there were.", PeopleEdges::clearReturns);
    }

    private static void liftAll() {
        Sentences.part("Promise 12");
        Sentences.test("Lifts rows, from the row 1 on, to their least heights",
                PeopleEdges::liftFromRow1);
        Sentences.test("(as leastHeight() tells, ascending, each one with those ahead of it as"
                + " they are then)", PeopleEdges::liftAscending);
        Sentences.test("if they are lower", PeopleEdges::liftIfLower);
        Sentences.test("rows that would have to be higher than 999 stay as they are",
                PeopleEdges::liftTo999);
        Sentences.test("Undoable.", PeopleEdges::liftAllUndone);
        Sentences.test("Returns how many rows are lifted.", PeopleEdges::liftAllReturns);
    }

    /** A call that a row and a seat are told to. */
    interface CallOfSeat {
        long on(HallSights hall, int row, int seat);
    }

    /** Rows and seats around those that there are: of a large hall, of a busy one, of none. */
    static void noSuchSeat(String what, CallOfSeat call) {
        Edge.refusesEach(what + " in the row", Edge.INDEX, Halls::full,
                (x, row) -> call.on(x, row, 0), -1, 10, Edge.LEAST, Edge.GREATEST);
        Edge.refusesEach(what + " of the seat", Edge.INDEX, Halls::full,
                (x, seat) -> call.on(x, 9, seat), -1, 12, 32, Edge.LEAST, Edge.GREATEST);
        Edge.refusesEach(what + " of the seat", Edge.INDEX, Halls::large,
                (x, seat) -> call.on(x, 0, seat), -1, 12, 32, Edge.LEAST, Edge.GREATEST);
        Edge.refusesEach(what + " in the row", Edge.INDEX, Halls::busy,
                (x, row) -> call.on(x, row, 1), -1, 4, 9);
        int[] seats = {4, 5, 3, 2};
        for (int row = 0; row < seats.length; row++) {
            int of = row;
            Edge.refusesEach(what + " in the row " + row + " of the seat", Edge.INDEX, Halls::busy,
                    (x, seat) -> call.on(x, of, seat), -1, seats[row], seats[row] + 1);
        }
        Edge.refuses(what + " without rows", Edge.INDEX, HallSights::new, x -> call.on(x, 0, 0));
    }

    // ---- promise 8

    private static void takeOne() {
        for (int seat = 0; seat < 12; seat++) {
            HallSights x = Halls.large();
            x.take(6, seat);
            Check.same("who sits there", x.count(3), 1);
            Edge.rowIs(x, 6, "996^0 " + ".".repeat(seat) + "#" + ".".repeat(11 - seat));
        }
    }

    private static void takeInEachRow() {
        HallSights x = Halls.large();
        for (int row = 0; row < 10; row++) {
            x.take(row, row);
            Check.same("who sits in the row " + row, x.row(row, 3), 1);
        }
        Check.same("who sits there", x.count(3), 10);
    }

    /** All 120 seats, one after the other, each straight behind those that are taken already. */
    private static void takeEachSeat() {
        HallSights x = Halls.large();
        for (int row = 0; row < 10; row++) {
            for (int seat = 0; seat < 12; seat++) {
                Check.same("take(" + row + ", " + seat + ")", x.take(row, seat), row);
            }
        }
        Check.same("who sits there", x.count(3), 120);
        Check.same("free seats side by side", x.count(7), 0);
    }

    private static void takeReturns() {
        HallSights x = Halls.full();
        for (int column = 0; column < 4; column++) {
            x.addColumn(1 + column, 0, 5);
        }
        x.leave(9, 11);
        Check.same("columns in the way", x.seat(9, 11, 3), 4);
        Check.same("take() behind 9 and 4 columns", x.take(9, 11), 9);
        x.leave(0, 11);
        Check.same("take() behind 4 columns", x.take(0, 11), 0);
        x.leave(0, 11);
        x.leave(9, 11);
        Check.same("take() behind 8 and 4 columns", x.take(9, 11), 8);
    }

    private static void takeTaken() {
        Edge.refuses("take() of a taken seat", Edge.STATE, Halls::full, x -> x.take(0, 0));
        Edge.refuses("take() of the last taken seat", Edge.STATE, Halls::full,
                x -> x.take(9, 11));
        Edge.refuses("take() of a taken seat", Edge.STATE, Halls::busy, x -> x.take(1, 2));
        HallSights x = Halls.busy();
        x.leave(1, 2);
        Check.same("take() of a seat that was left", x.take(1, 2), 0);
        x.clear();
        Check.same("take() behind clear()", x.take(1, 2), 0);
        x.undo();
        Check.same("take() behind undo()", x.take(1, 2), 0);
    }

    // ---- promise 9

    private static void leaveOne() {
        for (int seat = 0; seat < 12; seat++) {
            HallSights x = Halls.full();
            x.leave(3, seat);
            Check.same("who sits there", x.count(3), 119);
            Edge.rowIs(x, 3, "993^0 " + "#".repeat(seat) + "." + "#".repeat(11 - seat));
        }
    }

    private static void leaveEachRow() {
        HallSights x = Halls.full();
        for (int row = 0; row < 10; row++) {
            x.leave(row, row);
            Check.same("who sits in the row " + row, x.row(row, 3), 11);
        }
    }

    private static void leaveEachSeat() {
        HallSights x = Halls.full();
        int left = 120;
        for (int row = 0; row < 10; row++) {
            for (int seat = 0; seat < 12; seat++) {
                left--;
                Check.same("leave(" + row + ", " + seat + ")", x.leave(row, seat), left);
            }
        }
        Check.same("who sits there", x.count(3), 0);
    }

    private static void leaveReturns() {
        Check.same("leave() of 120", Halls.full().leave(5, 5), 119);
        HallSights x = Halls.busy();
        Check.same("leave() of three", x.leave(2, 0), 2);
        Check.same("leave() of two", x.leave(1, 2), 1);
        Check.same("leave() of the last one", x.leave(2, 2), 0);
    }

    private static void leaveFree() {
        Edge.refuses("leave() of a free seat", Edge.STATE, Halls::large, x -> x.leave(9, 11));
        Edge.refuses("leave() of a seat that was left", Edge.STATE, Halls::busy,
                x -> x.leave(0, 1));
        Edge.refuses("leave() behind clear()", Edge.STATE, () -> {
            HallSights x = Halls.full();
            x.clear();
            return x;
        }, x -> x.leave(0, 0));
        Edge.refuses("leave() behind undo() of take()", Edge.STATE, () -> {
            HallSights x = Halls.busy();
            x.take(0, 0);
            x.undo();
            return x;
        }, x -> x.leave(0, 0));
    }

    // ---- promise 10

    private static void sideBySide() {
        for (int many = 1; many <= 12; many++) {
            HallSights x = new HallSights();
            x.addRow(10, 0, 12);
            x.addRow(20, 0, 12);
            Check.same("seatParty(" + many + ")", x.seatParty(many), 0);
            Edge.rowIs(x, 0, "10^0 " + "#".repeat(many) + ".".repeat(12 - many));
            Edge.rowIs(x, 1, "20^0 ............");
        }
        HallSights x = new HallSights();
        x.addRow(10, 0, 6);
        x.addRow(20, 0, 6);
        Edge.throwsJust("seatParty(7) in two rows", Edge.STATE, x, y -> y.seatParty(7));
        Check.same("seatParty(6)", x.seatParty(6), 0);
    }

    private static void onFreeSeats() {
        HallSights x = new HallSights();
        x.addRow(10, 0, 12);
        x.take(0, 0);
        x.take(0, 4);
        x.take(0, 9);
        Edge.throwsJust("seatParty(5)", Edge.STATE, x, y -> y.seatParty(5));
        Check.same("seatParty(4) in a gap of 4", x.seatParty(4), 5);
        Check.same("seatParty(3) in a gap of 3", x.seatParty(3), 1);
        Edge.rowIs(x, 0, "10^0 ##########..");
        Check.same("seatParty(2) at the end", x.seatParty(2), 10);
        Edge.rowIs(x, 0, "10^0 ############");
    }

    /** The row 1 is straight behind the row 0, and its seat 0 is behind two columns as well. */
    private static HallSights behindHeadsAndColumns() {
        HallSights x = new HallSights();
        x.addRow(900, 0, 4);
        x.addRow(999, 0, 4);
        x.seatParty(4);
        x.addColumn(950, -2, 1);
        x.addColumn(950, -3, 1);
        return x;
    }

    private static void leastInTheWay() {
        // In the way of the row 1 are 3 1 1 1.
        for (int many = 1; many <= 3; many++) {
            Check.same("seatParty() with most in the way of the first seat",
                    behindHeadsAndColumns().seatParty(many), 101);
        }
        Check.same("seatParty() with one place alone", behindHeadsAndColumns().seatParty(4), 100);
        HallSights x = behindHeadsAndColumns();
        x.leave(0, 0);
        x.leave(0, 3);
        // Now they are 2 1 1 0: two columns, a head, a head, nothing.
        Check.same("seatParty(3) past two columns", x.seatParty(3), 101);
        x.undo();
        Check.same("seatParty(2) past two columns and a head", x.seatParty(2), 102);
        x.undo();
        x.removeColumn(1);
        x.take(0, 3);
        // Now they are 1 1 1 1: a column counts as a head does.
        Check.same("seatParty(2) past a column and a head", x.seatParty(2), 100);
    }

    private static void lowestRow() {
        HallSights x = new HallSights();
        x.addRow(30, 0, 12);
        x.addRow(20, 0, 12);
        x.addRow(10, 0, 3);
        Check.same("seatParty(3) in three rows", x.seatParty(3), 0);
        Check.same("seatParty(3) in two rows that have places with nobody in the way",
                x.seatParty(3), 100);
        HallSights y = new HallSights();
        y.addRow(30, 0, 2);
        y.addRow(20, 0, 2);
        y.addRow(10, 0, 1);
        y.addColumn(9, 0, 0);
        Check.same("columns in the way of the row 0", y.seat(0, 0, 3), 1);
        Check.same("seatParty(1) in two rows past the column", y.seatParty(1), 100);
    }

    private static void lowestSeat() {
        HallSights x = new HallSights();
        x.addRow(10, 0, 12);
        Check.same("seatParty(5)", x.seatParty(5), 0);
        Check.same("seatParty(5)", x.seatParty(5), 5);
        Check.same("seatParty(1)", x.seatParty(1), 10);
        Check.same("seatParty(1)", x.seatParty(1), 11);
        HallSights y = new HallSights();
        y.addRow(10, 0, 5);
        y.addColumn(5, -2, 0);
        // The line of the seat 0 passes 5 at -2: of the others the lowest is 1, not the middle one.
        Check.same("seatParty(1) beside a column", y.seatParty(1), 1);
    }

    /** A party is in nobody's way of its own row: it is as good a place with it as without it. */
    private static void lookedForAhead() {
        HallSights x = new HallSights();
        x.addRow(10, 0, 6);
        x.addRow(11, 0, 6);
        Check.same("seatParty(6) with all seats alike", x.seatParty(6), 0);
        Check.same("who is in whose way", x.count(6), 0);
        Check.same("seatParty(6) behind the first one", x.seatParty(6), 100);
        Check.same("who is in whose way", x.count(6), 6);
    }

    private static void manyAreSeated() {
        HallSights x = Halls.large();
        Check.same("seatParty(1)", x.seatParty(1), 0);
        Check.same("who sits there", x.count(3), 1);
        Check.same("seatParty(12)", x.seatParty(12), 100);
        Check.same("who sits there", x.count(3), 13);
    }

    private static void partyReturns() {
        HallSights x = Halls.full();
        x.leave(9, 11);
        Check.same("seatParty(1) on the last seat", x.seatParty(1), 911);
        x.leave(9, 11);
        x.leave(9, 10);
        Check.same("seatParty(2) on the last two", x.seatParty(2), 910);
        x.leave(0, 11);
        Check.same("seatParty(1) in the row 0", x.seatParty(1), 11);
        HallSights y = Halls.large();
        for (int row = 0; row < 10; row++) {
            Check.same("seatParty(12)", y.seatParty(12), 100 * row);
        }
    }

    private static void notSoMany() {
        Edge.refusesEach("seatParty() in a full hall", Edge.STATE, Halls::full,
                (x, many) -> x.seatParty(many), 1, 2, 12);
        Edge.refusesEach("seatParty() without rows", Edge.STATE, HallSights::new,
                (x, many) -> x.seatParty(many), 1, 12);
        Edge.refusesEach("seatParty() with gaps of 4 and less", Edge.STATE, Halls::busy,
                (x, many) -> x.seatParty(many), 5, 6, 12);
        Edge.refuses("seatParty(12) in a row of 11", Edge.STATE, () -> {
            HallSights x = new HallSights();
            x.addRow(10, 0, 11);
            return x;
        }, x -> x.seatParty(12));
        Edge.refuses("seatParty(2) of every other seat", Edge.STATE, () -> {
            HallSights x = new HallSights();
            x.addRow(10, 0, 12);
            x.addRow(20, 0, 1);
            for (int seat = 1; seat < 12; seat += 2) {
                x.take(0, seat);
            }
            return x;
        }, x -> x.seatParty(2));
    }

    // ---- promise 11

    private static void allLeave() {
        HallSights x = Halls.full();
        x.clear();
        for (int row = 0; row < 10; row++) {
            Edge.rowIs(x, row, (990 + row) + "^0 ............");
        }
        Check.same("who sits there", x.count(3), 0);
        Check.same("who sees", x.count(4), 120);
        HallSights y = Halls.busy();
        y.clear();
        Check.same("rows", y.count(0), 4);
        Check.same("columns", y.count(1), 2);
        Check.same("the height of the point", y.setting(0), 90);
    }

    private static void clearUndone() {
        Edge.undoable("clear()", x -> x.clear());
        HallSights x = Halls.full();
        x.clear();
        Check.same("clear() of nobody", x.clear(), 0);
        x.undo();
        Check.same("who sits there", x.count(3), 0);
        x.undo();
        Check.same("who sits there", x.count(3), 120);
    }

    private static void clearReturns() {
        Check.same("clear() without rows", new HallSights().clear(), 0);
        Check.same("clear() of free seats", Halls.large().clear(), 0);
        Check.same("clear() of a full hall", Halls.full().clear(), 120);
        HallSights x = Halls.large();
        x.take(9, 11);
        Check.same("clear() of one", x.clear(), 1);
        Check.same("clear() once more", x.clear(), 0);
    }

    // ---- promise 12

    private static void liftFromRow1() {
        HallSights x = Halls.two(10, 0, 20, 0);
        Check.same("the least height of the row 1", x.leastHeight(1), 44);
        x.liftAll();
        Check.same("the height of the row 0", x.row(0, 1), 0);
        Check.same("the height of the row 1", x.row(1, 1), 44);
        HallSights y = new HallSights();
        y.addRow(10, 0, 12);
        Check.same("liftAll() of the row 0 alone", y.liftAll(), 0);
        Check.same("its height", y.row(0, 1), 0);
        HallSights z = Halls.large();
        z.lift(9, 1);
        z.liftAll();
        // With an eye of 20 above the point each one needs 12 more, and a bit, so 13, at first.
        Edge.allAre("the height of the row", z, (v, row) -> v.row(row, 1),
                0, 13, 26, 39, 52, 65, 78, 91, 104, 117);
    }

    private static void liftAscending() {
        HallSights x = new HallSights();
        x.addRow(10, 0, 1);
        x.addRow(20, 0, 1);
        x.addRow(30, 0, 1);
        Check.same("the least height of the row 2 first", x.leastHeight(2), 76);
        x.liftAll();
        Check.same("the height of the row 1", x.row(1, 1), 44);
        Check.same("the height of the row 2", x.row(2, 1), 94);
        Check.same("the least height of the row 2 then", x.leastHeight(2), 94);
        x.lift(1, 500);
        Check.same("liftAll() behind a row that is higher", x.liftAll(), 1);
        Check.same("the height of the row 1", x.row(1, 1), 500);
        // Past the row 1 the eye of the row 2 has to be at 532 * 30 / 20.
        Check.same("the height of the row 2", x.row(2, 1), 778);
    }

    private static void liftIfLower() {
        HallSights x = Halls.two(10, 0, 20, 44);
        Check.same("liftAll() of a row at its least height", x.liftAll(), 0);
        Check.same("its height", x.row(1, 1), 44);
        x.lift(1, 45);
        Check.same("liftAll() of a row above its least height", x.liftAll(), 0);
        Check.same("its height", x.row(1, 1), 45);
        x.lift(1, 43);
        Check.same("liftAll() of a row below its least height", x.liftAll(), 1);
        Check.same("its height", x.row(1, 1), 44);
        x.set(0, 999);
        Check.same("liftAll() of a row that needs no height", x.liftAll(), 0);
        Check.same("its height", x.row(1, 1), 44);
    }

    private static void liftTo999() {
        HallSights x = Halls.two(998, 985, 999, 0);
        Check.same("the least height", x.leastHeight(1), 999);
        Check.same("liftAll() to 999", x.liftAll(), 1);
        Check.same("the height", x.row(1, 1), 999);
        HallSights y = Halls.two(998, 986, 999, 5);
        Check.same("the least height", y.leastHeight(1), 1000);
        Check.same("liftAll() to 1000", y.liftAll(), 0);
        Check.same("the height", y.row(1, 1), 5);
        HallSights z = new HallSights();
        z.addRow(10, 0, 1);
        z.addRow(20, 0, 1);
        z.addRow(315, 0, 1);
        Check.same("the least height of the row 2 first", z.leastHeight(2), 988);
        // Past the row 1 at 44 the row 2 would have to be at 76 * 315 / 20 - 20.
        Check.same("liftAll() of the row 1, which makes the row 2 too low", z.liftAll(), 1);
        Check.same("the height of the row 1", z.row(1, 1), 44);
        Check.same("the height of the row 2", z.row(2, 1), 0);
        Check.same("the least height of the row 2 then", z.leastHeight(2), 1177);
    }

    private static void liftAllUndone() {
        Edge.undoable("liftAll()", x -> x.liftAll());
        HallSights x = Halls.two(10, 0, 20, 44);
        Check.same("liftAll() of no row", x.liftAll(), 0);
        Check.same("saved states", x.count(8), 3);
        x.lift(1, 0);
        x.liftAll();
        Check.same("undo()", x.undo(), 4);
        Check.same("the height", x.row(1, 1), 0);
    }

    private static void liftAllReturns() {
        Check.same("liftAll() without rows", new HallSights().liftAll(), 0);
        HallSights x = Halls.large();
        Check.same("liftAll() of nine", x.liftAll(), 9);
        Check.same("liftAll() once more", x.liftAll(), 0);
        x.lift(4, 0);
        Check.same("liftAll() of one", x.liftAll(), 1);
        x.lift(4, 53);
        Check.same("liftAll() of those behind one that is higher", x.liftAll(), 5);
    }
}
