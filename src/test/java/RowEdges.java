/** Sentences of the promises 1 to 7: a new object, rows, columns, settings. */
final class RowEdges {
    private RowEdges() {
    }

    static void all() {
        newObject();
        addRow();
        removeRow();
        lift();
        addColumn();
        removeColumn();
        set();
    }

    private static void newObject() {
        Sentences.part("Promise 1");
        Sentences.test("Creates an empty hall", RowEdges::emptyHall);
        Sentences.test("with an empty buffer", RowEdges::emptyBuffer);
    }

    private static void addRow() {
        Sentences.part("Promise 2");
        Sentences.test("Adds a row of free seats", RowEdges::freeSeats);
        Sentences.test("rows behind it have numbers that are greater by 1 then",
                RowEdges::rowsBehindGreater);
        Sentences.test("Undoable.", () -> {
            Edge.undoable("addRow() behind all", x -> x.addRow(999, 999, 12));
            Edge.undoable("addRow() ahead of all", x -> x.addRow(1, 0, 1));
        });
        Sentences.test("`distance`: 1 to 999", RowEdges::addRowDistance);
        Sentences.test("`height`: 0 to 999", RowEdges::addRowHeight);
        Sentences.test("`seats`: 1 to 12", RowEdges::addRowSeats);
        Sentences.test("Returns its number.", RowEdges::addRowReturns);
        Sentences.test("Throws `IllegalArgumentException` if an argument is out of range",
                RowEdges::addRowArgument);
        Sentences.test("Throws `IllegalStateException` if there are 10 rows",
                RowEdges::elevenRows);
        Sentences.test("or one has this distance", RowEdges::sameDistance);
    }

    private static void removeRow() {
        Sentences.part("Promise 3");
        Sentences.test("Removes a row with all who sit there.", RowEdges::removedWithAll);
        Sentences.test("Undoable.", () -> {
            Edge.undoable("removeRow() of the first", x -> x.removeRow(0));
            Edge.undoable("removeRow() of one with people", x -> x.removeRow(2));
        });
        Sentences.test("`row`: its number", RowEdges::removeRowNumber);
        Sentences.test("Returns how many seats are left in the hall.", RowEdges::seatsLeft);
        Sentences.test("Throws `IndexOutOfBoundsException` if there is no such row",
                RowEdges::removeNoRow);
    }

    private static void lift() {
        Sentences.part("Promise 4");
        Sentences.test("Changes the height of a row.", RowEdges::liftOneRow);
        Sentences.test("Undoable.", () -> Edge.undoable("lift()", x -> x.lift(2, 999)));
        Sentences.test("`row`: its number", RowEdges::liftNumber);
        Sentences.test("`height`: 0 to 999", RowEdges::liftHeight);
        Sentences.test("Returns the previous height.", RowEdges::liftReturns);
        Sentences.test("Throws `IndexOutOfBoundsException` if there is no such row", () ->
                Edge.refusesEach("lift() of the row", Edge.INDEX, Halls::full,
                        (x, row) -> x.lift(row, 5), -1, 10, Edge.LEAST, Edge.GREATEST));
        Sentences.test("Throws `IllegalArgumentException` if height is out of range", () ->
                Edge.refusesEach("lift() to the height", Edge.ARGUMENT, Halls::busy,
                        (x, height) -> x.lift(0, height), -1, 1000, Edge.LEAST, Edge.GREATEST));
    }

    private static void addColumn() {
        Sentences.part("Promise 5");
        Sentences.test("Adds a column.", RowEdges::addOneColumn);
        Sentences.test("Undoable.", () ->
                Edge.undoable("addColumn()", x -> x.addColumn(1, -12, 5)));
        Sentences.test("`distance`: 1 to 999", RowEdges::columnDistance);
        Sentences.test("`side`: -12 to 12", RowEdges::columnSide);
        Sentences.test("`half`: 0 to 5", RowEdges::columnHalf);
        Sentences.test("Returns its number.", RowEdges::addColumnReturns);
        Sentences.test("Throws `IllegalArgumentException` if an argument is out of range",
                RowEdges::addColumnArgument);
        Sentences.test("Throws `IllegalStateException` if there are 4 columns",
                RowEdges::fiveColumns);
    }

    private static void removeColumn() {
        Sentences.part("Promise 6");
        Sentences.test("Removes a column.", RowEdges::removeOneColumn);
        Sentences.test("Undoable.", () ->
                Edge.undoable("removeColumn()", x -> x.removeColumn(0)));
        Sentences.test("`column`: its number", RowEdges::removeColumnNumber);
        Sentences.test("Returns how many there are then.", RowEdges::columnsLeft);
        Sentences.test("Throws `IndexOutOfBoundsException` if there is no such column",
                RowEdges::removeNoColumn);
    }

    private static void set() {
        Sentences.part("Promise 7");
        Sentences.test("Changes a setting.", RowEdges::setOne);
        Sentences.test("Undoable.", () -> {
            Edge.undoable("set() of 0", x -> x.set(0, 999));
            Edge.undoable("set() of 1", x -> x.set(1, 300));
            Edge.undoable("set() of 2", x -> x.set(2, 100));
        });
        Sentences.test("`setting`: 0 to 2", RowEdges::setNumber);
        Sentences.test("`value`: the new value", RowEdges::setValue);
        Sentences.test("Returns the previous value.", RowEdges::setReturns);
        Sentences.test("Throws `IndexOutOfBoundsException` if there is no such setting", () ->
                Edge.refusesEach("set() of", Edge.INDEX, Halls::busy,
                        (x, setting) -> x.set(setting, 50), -1, 3, Edge.LEAST, Edge.GREATEST));
        Sentences.test("Throws `IllegalArgumentException` if value is out of range",
                RowEdges::setArgument);
    }

    // ---- promise 1

    private static void emptyHall() {
        HallSights x = new HallSights();
        Edge.allAre("count()", x, (y, what) -> y.count(what), 0, 0, 0, 0, 0, 0, 0, 0, 0);
        Edge.allAre("setting()", x, (y, setting) -> y.setting(setting), 100, 120, 12);
        Check.same("best(0)", x.best(0), Edge.NONE);
        Check.same("worstColumn()", x.worstColumn(), Edge.NONE);
        Check.holds("seeingShare() is 1.0", x.seeingShare() == 1.0);
        Edge.refuses("row(0, 0)", Edge.INDEX, HallSights::new, y -> y.row(0, 0));
        Edge.refuses("seat(0, 0, 0)", Edge.INDEX, HallSights::new, y -> y.seat(0, 0, 0));
        Edge.refuses("column(0, 0)", Edge.INDEX, HallSights::new, y -> y.column(0, 0));
        Edge.refuses("take(0, 0)", Edge.INDEX, HallSights::new, y -> y.take(0, 0));
        Edge.refuses("leave(0, 0)", Edge.INDEX, HallSights::new, y -> y.leave(0, 0));
        Edge.refuses("seatParty(1)", Edge.STATE, HallSights::new, y -> y.seatParty(1));
        Edge.refuses("undo()", Edge.STATE, HallSights::new, y -> y.undo());
        Check.same("clear()", new HallSights().clear(), 0);
        Check.same("liftAll()", new HallSights().liftAll(), 0);
        Halls.full();
        Check.same("the rows of a new object beside a full one", new HallSights().count(0), 0);
    }

    private static void emptyBuffer() {
        Check.same("firstError()", new HallSights().firstError(), 0);
        Check.same("clearBuffer()", new HallSights().clearBuffer(), 0);
        Check.same("append()", new HallSights().append('x'), 1);
        Edge.refuses("addAll()", Edge.ARGUMENT, HallSights::new, x -> x.addAll());
    }

    // ---- promise 2

    private static void freeSeats() {
        HallSights x = Halls.full();
        x.removeRow(4);
        x.addRow(994, 0, 12);
        Edge.rowIs(x, 4, "994^0 ............");
        x.removeRow(9);
        x.addRow(1, 0, 12);
        Edge.rowIs(x, 0, "1^0 ............");
        Edge.rowIs(x, 1, "990^0 ############");
        Edge.rowIs(x, 5, "994^0 ............");
        Edge.rowIs(x, 9, "998^0 ############");
        HallSights y = Halls.two(10, 0, 20, 0);
        y.take(1, 0);
        y.removeRow(1);
        y.addRow(30, 0, 12);
        Edge.rowIs(y, 1, "30^0 ............");
    }

    private static void rowsBehindGreater() {
        for (int added = 0; added <= 9; added++) {
            HallSights x = new HallSights();
            for (int row = 0; row < 9; row++) {
                x.addRow(100 * (row + 1), row, row + 1);
                x.take(row, row);
            }
            x.addRow(100 * added + 50, 77, 3);
            for (int row = 0; row < 9; row++) {
                String due = 100 * (row + 1) + "^" + row + " " + ".".repeat(row) + "#";
                Edge.rowIs(x, row < added ? row : row + 1, due);
            }
            Edge.rowIs(x, added, (100 * added + 50) + "^77 ...");
        }
    }

    private static void addRowDistance() {
        HallSights x = Halls.busy();
        Check.same("addRow() at 1", x.addRow(1, 0, 1), 0);
        Check.same("addRow() at 999", x.addRow(999, 0, 1), 5);
        Check.same("the distance of the row 0", x.row(0, 0), 1);
        Check.same("the distance of the row 5", x.row(5, 0), 999);
    }

    private static void addRowHeight() {
        HallSights x = new HallSights();
        x.addRow(5, 0, 1);
        x.addRow(6, 999, 1);
        Edge.rowIs(x, 0, "5^0 .");
        Edge.rowIs(x, 1, "6^999 .");
    }

    private static void addRowSeats() {
        HallSights x = new HallSights();
        x.addRow(5, 0, 1);
        x.addRow(6, 0, 12);
        Edge.rowIs(x, 0, "5^0 .");
        Edge.rowIs(x, 1, "6^0 ............");
    }

    private static void addRowReturns() {
        HallSights x = new HallSights();
        Check.same("addRow() to no row", x.addRow(500, 0, 1), 0);
        Check.same("addRow() behind all", x.addRow(501, 0, 1), 1);
        Check.same("addRow() ahead of all", x.addRow(499, 0, 1), 0);
        Check.same("addRow() as the last but one", x.addRow(999, 0, 1), 3);
        Check.same("addRow() as the last but one", x.addRow(998, 0, 1), 3);
        HallSights y = new HallSights();
        for (int row = 0; row < 10; row++) {
            Check.same("addRow()", y.addRow(900 - row, 0, 1), 0);
        }
        y.removeRow(9);
        Check.same("addRow() as the tenth", y.addRow(999, 0, 1), 9);
    }

    private static void addRowArgument() {
        Edge.refusesEach("addRow() at the distance", Edge.ARGUMENT, Halls::busy,
                (x, distance) -> x.addRow(distance, 5, 5), 0, 1000, -1, Edge.LEAST, Edge.GREATEST);
        Edge.refusesEach("addRow() with the height", Edge.ARGUMENT, Halls::busy,
                (x, height) -> x.addRow(5, height, 5), -1, 1000, Edge.LEAST, Edge.GREATEST);
        Edge.refusesEach("addRow() with the seats", Edge.ARGUMENT, Halls::busy,
                (x, seats) -> x.addRow(5, 5, seats), 0, 13, -1, Edge.LEAST, Edge.GREATEST);
    }

    private static void elevenRows() {
        Edge.refuses("addRow() ahead of 10", Edge.STATE, Halls::full, x -> x.addRow(1, 0, 1));
        Edge.refuses("addRow() between 10", Edge.STATE, () -> {
            HallSights x = Halls.full();
            x.removeRow(5);
            x.addRow(1, 0, 1);
            return x;
        }, x -> x.addRow(995, 0, 1));
        Edge.refuses("addRow() of a distance that 10 rows have", Edge.STATE, Halls::full,
                x -> x.addRow(999, 0, 1));
        HallSights x = Halls.full();
        x.removeRow(0);
        Check.same("addRow() to 9", x.addRow(1, 0, 1), 0);
        Check.same("rows", x.count(0), 10);
    }

    private static void sameDistance() {
        Edge.refusesEach("addRow() at the distance", Edge.STATE, Halls::busy,
                (x, distance) -> x.addRow(distance, 9, 9), 10, 20, 30, 40);
        int[] free = {9, 11, 19, 21, 29, 31, 39, 41};
        for (int distance : free) {
            HallSights x = Halls.busy();
            x.addRow(distance, 9, 9);
            Check.same("rows with one at " + distance, x.count(0), 5);
        }
        HallSights x = Halls.busy();
        x.removeRow(1);
        Check.same("addRow() where a row was removed", x.addRow(20, 0, 1), 1);
        x.undo();
        x.undo();
        Edge.throwsJust("addRow() where the row is back", Edge.STATE, x, y -> y.addRow(20, 0, 1));
        HallSights y = Halls.two(10, 0, 20, 0);
        y.undo();
        Check.same("addRow() where addRow() was undone", y.addRow(20, 0, 1), 1);
        y.addColumn(15, 0, 0);
        Check.same("addRow() where a column is", y.addRow(15, 0, 1), 1);
    }

    // ---- promise 3

    private static void removedWithAll() {
        for (int removed = 0; removed < 10; removed++) {
            HallSights x = new HallSights();
            for (int row = 0; row < 10; row++) {
                x.addRow(100 * row + 9, row, row + 1);
                x.take(row, row);
            }
            x.removeRow(removed);
            Check.same("rows", x.count(0), 9);
            Check.same("who sits there", x.count(3), 9);
            for (int row = 0; row < 9; row++) {
                int was = row < removed ? row : row + 1;
                Edge.rowIs(x, row, (100 * was + 9) + "^" + was + " " + ".".repeat(was) + "#");
            }
            Edge.throwsJust("row(9, 0)", Edge.INDEX, x, y -> y.row(9, 0));
        }
        HallSights x = Halls.two(10, 0, 20, 0);
        x.take(0, 0);
        x.take(1, 0);
        Check.same("who sees", x.count(5), 1);
        x.removeRow(0);
        Check.same("who sees when nobody is ahead any more", x.count(5), 1);
        Check.same("whom somebody is in the way of", x.count(6), 0);
    }

    private static void removeRowNumber() {
        HallSights x = Halls.large();
        x.removeRow(9);
        Check.same("the last row's distance", x.row(8, 0), 998);
        x.removeRow(0);
        Check.same("the first row's distance", x.row(0, 0), 991);
        Check.same("rows", x.count(0), 8);
    }

    private static void seatsLeft() {
        HallSights x = Halls.full();
        for (int left = 9; left >= 0; left--) {
            Check.same("removeRow() of " + (left + 1) + " rows", x.removeRow(left / 2), 12 * left);
        }
        HallSights y = new HallSights();
        y.addRow(10, 0, 1);
        y.addRow(20, 0, 12);
        y.addRow(30, 0, 5);
        y.take(2, 0);
        Check.same("removeRow() that leaves taken and free seats", y.removeRow(1), 6);
    }

    private static void removeNoRow() {
        Edge.refusesEach("removeRow()", Edge.INDEX, Halls::full, (x, row) -> x.removeRow(row),
                -1, 10, Edge.LEAST, Edge.GREATEST);
        Edge.refusesEach("removeRow()", Edge.INDEX, Halls::busy, (x, row) -> x.removeRow(row),
                4, 5, 9, 20);
        Edge.refuses("removeRow() of no row", Edge.INDEX, HallSights::new, x -> x.removeRow(0));
        Edge.refuses("removeRow() of the last one again", Edge.INDEX, () -> {
            HallSights x = new HallSights();
            x.addRow(10, 0, 1);
            x.removeRow(0);
            return x;
        }, x -> x.removeRow(0));
    }

    // ---- promise 4

    private static void liftOneRow() {
        HallSights x = Halls.full();
        x.lift(5, 321);
        for (int row = 0; row < 10; row++) {
            Edge.rowIs(x, row, (990 + row) + (row == 5 ? "^321 " : "^0 ") + "#".repeat(12));
        }
    }

    private static void liftNumber() {
        HallSights x = Halls.large();
        Check.same("lift() of the first", x.lift(0, 1), 0);
        Check.same("lift() of the last", x.lift(9, 2), 0);
        Check.same("the first one's height", x.row(0, 1), 1);
        Check.same("the last one's height", x.row(9, 1), 2);
    }

    private static void liftHeight() {
        HallSights x = Halls.busy();
        Check.same("lift() to 999", x.lift(1, 999), 12);
        Check.same("the height", x.row(1, 1), 999);
        Check.same("lift() to 0", x.lift(1, 0), 999);
        Check.same("the height", x.row(1, 1), 0);
    }

    private static void liftReturns() {
        HallSights x = Halls.busy();
        Check.same("lift() down", x.lift(2, 59), 60);
        Check.same("lift() up", x.lift(2, 61), 59);
        Check.same("lift() to the same height", x.lift(2, 61), 61);
        x.undo();
        x.undo();
        Check.same("lift() behind undo()", x.lift(2, 5), 59);
    }

    // ---- promise 5

    private static void addOneColumn() {
        HallSights x = Halls.busy();
        x.addColumn(100, 7, 4);
        Check.same("columns", x.count(1), 3);
        Edge.columnIs(x, 0, "15 -1 1");
        Edge.columnIs(x, 1, "12 3 0");
        Edge.columnIs(x, 2, "100 7 4");
        x.addColumn(100, 7, 4);
        Edge.columnIs(x, 3, "100 7 4");
        Check.same("rows", x.count(0), 4);
    }

    private static void columnDistance() {
        HallSights x = new HallSights();
        x.addColumn(999, 0, 0);
        x.addColumn(1, 0, 0);
        Edge.columnIs(x, 0, "999 0 0");
        Edge.columnIs(x, 1, "1 0 0");
    }

    private static void columnSide() {
        HallSights x = new HallSights();
        x.addColumn(5, -12, 0);
        x.addColumn(5, 12, 0);
        Edge.columnIs(x, 0, "5 -12 0");
        Edge.columnIs(x, 1, "5 12 0");
    }

    private static void columnHalf() {
        HallSights x = new HallSights();
        x.addColumn(5, 0, 0);
        x.addColumn(5, 0, 5);
        Edge.columnIs(x, 0, "5 0 0");
        Edge.columnIs(x, 1, "5 0 5");
    }

    private static void addColumnReturns() {
        HallSights x = new HallSights();
        for (int column = 0; column < 4; column++) {
            Check.same("addColumn()", x.addColumn(900 - column, 0, 0), column);
        }
        x.removeColumn(0);
        Check.same("addColumn() behind removeColumn()", x.addColumn(1, 0, 0), 3);
    }

    private static void addColumnArgument() {
        Edge.refusesEach("addColumn() at the distance", Edge.ARGUMENT, Halls::busy,
                (x, distance) -> x.addColumn(distance, 0, 0), 0, 1000, -1, Edge.LEAST,
                Edge.GREATEST);
        Edge.refusesEach("addColumn() at the side", Edge.ARGUMENT, Halls::busy,
                (x, side) -> x.addColumn(5, side, 0), -13, 13, Edge.LEAST, Edge.GREATEST);
        Edge.refusesEach("addColumn() with the half width", Edge.ARGUMENT, Halls::busy,
                (x, half) -> x.addColumn(5, 0, half), -1, 6, Edge.LEAST, Edge.GREATEST);
    }

    private static void fiveColumns() {
        Edge.refuses("addColumn() to 4", Edge.STATE, Halls::fourColumns,
                x -> x.addColumn(5, 0, 0));
        Edge.refuses("addColumn() to 4 of one that is there", Edge.STATE, Halls::fourColumns,
                x -> x.addColumn(20, 0, 0));
        HallSights x = Halls.fourColumns();
        x.removeColumn(3);
        Check.same("addColumn() to 3", x.addColumn(5, 0, 0), 3);
    }

    // ---- promise 6

    private static void removeOneColumn() {
        HallSights x = Halls.busy();
        x.removeColumn(0);
        Check.same("columns", x.count(1), 1);
        Edge.columnIs(x, 0, "12 3 0");
        HallSights y = Halls.busy();
        y.removeColumn(1);
        Check.same("columns", y.count(1), 1);
        Edge.columnIs(y, 0, "15 -1 1");
        HallSights z = new HallSights();
        z.addRow(10, 0, 1);
        z.addColumn(5, 0, 0);
        Check.same("who sees past it", z.count(4), 0);
        z.removeColumn(0);
        Check.same("who sees without it", z.count(4), 1);
    }

    private static void removeColumnNumber() {
        HallSights x = Halls.fourColumns();
        x.removeColumn(3);
        x.removeColumn(0);
        Edge.columnIs(x, 0, "21 1 1");
        Edge.columnIs(x, 1, "22 2 2");
        Check.same("columns", x.count(1), 2);
    }

    private static void columnsLeft() {
        HallSights x = Halls.fourColumns();
        for (int left = 3; left >= 0; left--) {
            Check.same("removeColumn()", x.removeColumn(left), left);
        }
    }

    private static void removeNoColumn() {
        Edge.refusesEach("removeColumn() of 4", Edge.INDEX, Halls::fourColumns,
                (x, column) -> x.removeColumn(column), -1, 4, Edge.LEAST, Edge.GREATEST);
        Edge.refusesEach("removeColumn() of 2", Edge.INDEX, Halls::busy,
                (x, column) -> x.removeColumn(column), 2, 3, 10);
        Edge.refuses("removeColumn() of none", Edge.INDEX, Halls::large, x -> x.removeColumn(0));
    }

    // ---- promise 7

    private static void setOne() {
        for (int setting = 0; setting < 3; setting++) {
            HallSights x = new HallSights();
            x.set(setting, 33);
            int[] due = {100, 120, 12};
            due[setting] = 33;
            Edge.allAre("setting()", x, (y, of) -> y.setting(of), due);
        }
    }

    private static void setNumber() {
        HallSights x = new HallSights();
        Check.same("set() of 0", x.set(0, 1), 100);
        Check.same("set() of 1", x.set(1, 2), 120);
        Check.same("set() of 2", x.set(2, 3), 12);
        Edge.allAre("setting()", x, (y, of) -> y.setting(of), 1, 2, 3);
    }

    private static void setValue() {
        int[][] values = {{0, 999}, {1, 300}, {0, 100}};
        for (int setting = 0; setting < 3; setting++) {
            for (int value : values[setting]) {
                HallSights x = Halls.busy();
                x.set(setting, value);
                Check.same("setting(" + setting + ")", x.setting(setting), value);
            }
        }
    }

    private static void setReturns() {
        HallSights x = new HallSights();
        x.set(0, 999);
        Check.same("set() from the greatest", x.set(0, 0), 999);
        Check.same("set() from the least", x.set(0, 0), 0);
        Check.same("set() from the same", x.set(0, 5), 0);
        x.undo();
        Check.same("set() behind undo()", x.set(0, 6), 0);
    }

    private static void setArgument() {
        int[][] wrong = {{-1, 1000}, {0, 301, -1}, {-1, 101}};
        for (int setting = 0; setting < 3; setting++) {
            int of = setting;
            Edge.refusesEach("set() of " + setting, Edge.ARGUMENT, Halls::busy,
                    (x, value) -> x.set(of, value), wrong[setting]);
            Edge.refusesEach("set() of " + setting, Edge.ARGUMENT, Halls::busy,
                    (x, value) -> x.set(of, value), Edge.LEAST, Edge.GREATEST);
        }
    }
}
