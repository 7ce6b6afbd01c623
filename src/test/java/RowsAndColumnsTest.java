/** Promises 1 to 7: a new object, rows, columns, settings. */
final class RowsAndColumnsTest {
    private static final Class<?> ARGUMENT = IllegalArgumentException.class;
    private static final Class<?> STATE = IllegalStateException.class;
    private static final Class<?> INDEX = IndexOutOfBoundsException.class;

    private RowsAndColumnsTest() {
    }

    public static void main(String[] args) {
        newObject();
        addRow();
        addRowRefuses();
        removeRow();
        lift();
        addColumn();
        removeColumn();
        set();
        Check.end("RowsAndColumnsTest");
    }

    private static void newObject() {
        HallSights x = new HallSights();
        for (int what = 0; what <= 8; what++) {
            Check.same("a new object's count(" + what + ")", x.count(what), 0);
        }
        Check.same("a new object's setting(0)", x.setting(0), 100);
        Check.same("a new object's setting(1)", x.setting(1), 120);
        Check.same("a new object's setting(2)", x.setting(2), 12);
        Check.same("a new object's firstError()", x.firstError(), 0);
        Check.same("a new object's clearBuffer()", x.clearBuffer(), 0);
        Check.fails("a new object's undo()", x, STATE, () -> x.undo());
        Check.fails("a new object's row(0, 0)", x, INDEX, () -> x.row(0, 0));
        Check.fails("a new object's column(0, 0)", x, INDEX, () -> x.column(0, 0));
        new HallSights().addRow(5, 5, 5);
        Check.same("an object's rows after another one's addRow()", x.count(0), 0);
    }

    private static void addRow() {
        HallSights x = new HallSights();
        Check.undoable("addRow(500, 10, 3)", x, 0, () -> x.addRow(500, 10, 3));
        x.take(0, 2);
        Check.undoable("addRow(999, 999, 12)", x, 1, () -> x.addRow(999, 999, 12));
        Check.undoable("addRow(1, 0, 1)", x, 0, () -> x.addRow(1, 0, 1));
        Check.undoable("addRow(499, 7, 2)", x, 1, () -> x.addRow(499, 7, 2));
        int[][] rows = {{1, 0, 1, 0}, {499, 7, 2, 0}, {500, 10, 3, 1}, {999, 999, 12, 0}};
        for (int row = 0; row < rows.length; row++) {
            for (int what = 0; what < 4; what++) {
                Check.same("row(" + row + ", " + what + ")", x.row(row, what), rows[row][what]);
            }
        }
        Check.same("the seat that was taken", x.seat(2, 2, 1), 1);
        Check.same("count(0)", x.count(0), 4);
    }

    private static void addRowRefuses() {
        HallSights x = new HallSights();
        int[][] wrong = {{0, 0, 1}, {1000, 0, 1}, {-5, 0, 1}, {5, -1, 1}, {5, 1000, 1}, {5, 0, 0},
            {5, 0, 13}, {5, 0, -1}, {Integer.MIN_VALUE, 0, 1}, {5, Integer.MAX_VALUE, 1},
            {5, 0, Integer.MAX_VALUE}, {5, 0, Integer.MIN_VALUE}};
        for (int[] row : wrong) {
            Check.fails("addRow(" + row[0] + ", " + row[1] + ", " + row[2] + ")", x, ARGUMENT,
                    () -> x.addRow(row[0], row[1], row[2]));
        }
        for (int row = 0; row < 9; row++) {
            x.addRow(10 + row, row, 1);
        }
        Check.fails("addRow() of a distance that is there", x, STATE, () -> x.addRow(14, 0, 1));
        Check.same("the tenth addRow()", x.addRow(9, 0, 1), 0);
        Check.fails("the eleventh addRow()", x, STATE, () -> x.addRow(99, 0, 1));
        Check.fails("the eleventh addRow() with wrong seats", x, ARGUMENT,
                () -> x.addRow(14, 0, 13));
        Check.fails("the eleventh addRow() with a wrong height", x, ARGUMENT,
                () -> x.addRow(14, 1000, 1));
    }

    private static void removeRow() {
        HallSights x = new HallSights();
        x.addRow(10, 1, 3);
        x.addRow(20, 2, 4);
        x.addRow(30, 3, 5);
        x.take(0, 0);
        x.take(1, 3);
        x.take(2, 4);
        Check.fails("removeRow(-1)", x, INDEX, () -> x.removeRow(-1));
        Check.fails("removeRow(3)", x, INDEX, () -> x.removeRow(3));
        Check.fails("removeRow(least)", x, INDEX, () -> x.removeRow(Integer.MIN_VALUE));
        Check.undoable("removeRow(1)", x, 8, () -> x.removeRow(1));
        Check.same("count(0)", x.count(0), 2);
        Check.same("count(3)", x.count(3), 2);
        Check.same("row(1, 0)", x.row(1, 0), 30);
        Check.same("row(1, 1)", x.row(1, 1), 3);
        Check.same("row(1, 2)", x.row(1, 2), 5);
        Check.same("row(1, 3)", x.row(1, 3), 1);
        Check.same("seat(1, 4, 1)", x.seat(1, 4, 1), 1);
        Check.same("removeRow(1), the last one", x.removeRow(1), 3);
        Check.same("removeRow(0)", x.removeRow(0), 0);
        Check.fails("removeRow(0) in an empty hall", x, INDEX, () -> x.removeRow(0));
        x.addRow(10, 0, 2);
        Check.same("nobody sits in a new row", x.count(3), 0);
    }

    private static void lift() {
        HallSights x = new HallSights();
        x.addRow(10, 1, 3);
        x.addRow(20, 2, 4);
        Check.undoable("lift(1, 999)", x, 2, () -> x.lift(1, 999));
        Check.same("lift(1, 0)", x.lift(1, 0), 999);
        Check.same("row(1, 1)", x.row(1, 1), 0);
        Check.same("row(0, 1)", x.row(0, 1), 1);
        Check.undoable("lift(1, 0) that changes nothing", x, 0, () -> x.lift(1, 0));
        Check.fails("lift(2, 0)", x, INDEX, () -> x.lift(2, 0));
        Check.fails("lift(-1, 0)", x, INDEX, () -> x.lift(-1, 0));
        Check.fails("lift(2, -1)", x, INDEX, () -> x.lift(2, -1));
        Check.fails("lift(0, -1)", x, ARGUMENT, () -> x.lift(0, -1));
        Check.fails("lift(0, 1000)", x, ARGUMENT, () -> x.lift(0, 1000));
    }

    private static void addColumn() {
        HallSights x = new HallSights();
        x.addRow(10, 0, 2);
        Check.undoable("addColumn(999, -12, 5)", x, 0, () -> x.addColumn(999, -12, 5));
        Check.undoable("addColumn(1, 12, 0)", x, 1, () -> x.addColumn(1, 12, 0));
        int[][] wrong = {{0, 0, 0}, {1000, 0, 0}, {1, -13, 0}, {1, 13, 0}, {1, 0, -1}, {1, 0, 6}};
        for (int[] column : wrong) {
            Check.fails("addColumn(" + column[0] + ", " + column[1] + ", " + column[2] + ")", x,
                    ARGUMENT, () -> x.addColumn(column[0], column[1], column[2]));
        }
        Check.same("a column where a row is", x.addColumn(10, 0, 1), 2);
        Check.same("a column where a column is", x.addColumn(10, 0, 1), 3);
        Check.fails("a fifth column", x, STATE, () -> x.addColumn(5, 0, 0));
        Check.fails("a fifth column with a wrong side", x, ARGUMENT, () -> x.addColumn(5, 13, 0));
        int[][] due = {{999, -12, 5}, {1, 12, 0}, {10, 0, 1}, {10, 0, 1}};
        for (int column = 0; column < due.length; column++) {
            for (int what = 0; what < 3; what++) {
                Check.same("column(" + column + ", " + what + ")", x.column(column, what),
                        due[column][what]);
            }
        }
    }

    private static void removeColumn() {
        HallSights x = new HallSights();
        x.addColumn(1, 2, 3);
        x.addColumn(4, 5, 0);
        x.addColumn(7, 8, 1);
        Check.fails("removeColumn(3)", x, INDEX, () -> x.removeColumn(3));
        Check.fails("removeColumn(-1)", x, INDEX, () -> x.removeColumn(-1));
        Check.undoable("removeColumn(0)", x, 2, () -> x.removeColumn(0));
        Check.same("column(0, 0)", x.column(0, 0), 4);
        Check.same("column(0, 1)", x.column(0, 1), 5);
        Check.same("column(0, 2)", x.column(0, 2), 0);
        Check.same("column(1, 0)", x.column(1, 0), 7);
        Check.same("column(1, 1)", x.column(1, 1), 8);
        Check.same("column(1, 2)", x.column(1, 2), 1);
        Check.fails("column(2, 0)", x, INDEX, () -> x.column(2, 0));
        Check.same("removeColumn(1)", x.removeColumn(1), 1);
        Check.same("removeColumn(0)", x.removeColumn(0), 0);
        Check.fails("removeColumn(0) without columns", x, INDEX, () -> x.removeColumn(0));
    }

    private static void set() {
        HallSights x = new HallSights();
        Check.undoable("set(0, 999)", x, 100, () -> x.set(0, 999));
        Check.same("set(0, 0)", x.set(0, 0), 999);
        Check.undoable("set(1, 1)", x, 120, () -> x.set(1, 1));
        Check.same("set(1, 300)", x.set(1, 300), 1);
        Check.undoable("set(2, 0)", x, 12, () -> x.set(2, 0));
        Check.undoable("set(2, 100)", x, 0, () -> x.set(2, 100));
        Check.undoable("set(2, 100) that changes nothing", x, 100, () -> x.set(2, 100));
        Check.same("setting(0)", x.setting(0), 0);
        Check.same("setting(1)", x.setting(1), 300);
        Check.same("setting(2)", x.setting(2), 100);
        int[][] wrong = {{0, -1}, {0, 1000}, {1, 0}, {1, 301}, {1, -1}, {2, -1}, {2, 101}};
        for (int[] pair : wrong) {
            Check.fails("set(" + pair[0] + ", " + pair[1] + ")", x, ARGUMENT,
                    () -> x.set(pair[0], pair[1]));
        }
        Check.fails("set(3, 5)", x, INDEX, () -> x.set(3, 5));
        Check.fails("set(-1, -5)", x, INDEX, () -> x.set(-1, -5));
        Check.fails("setting(3)", x, INDEX, () -> x.setting(3));
        Check.fails("setting(-1)", x, INDEX, () -> x.setting(-1));
    }
}
