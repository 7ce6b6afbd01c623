/** Promises 13 to 17: the buffer, its syntax errors, the rows in it, undo. */
final class TextsTest {
    private static final Class<?> ARGUMENT = IllegalArgumentException.class;
    private static final Class<?> STATE = IllegalStateException.class;

    private TextsTest() {
    }

    public static void main(String[] args) {
        append();
        clearBuffer();
        firstError();
        addAll();
        addAllUpToTheFirstThatThrows();
        addAllRefuses();
        undo();
        undoDropsTheOldest();
        undoLeavesTheBuffer();
        Check.end("TextsTest");
    }

    private static void append() {
        HallSights x = new HallSights();
        Check.fails("append(32)", x, ARGUMENT, () -> x.append(32));
        Check.fails("append(127)", x, ARGUMENT, () -> x.append(127));
        Check.fails("append(-1)", x, ARGUMENT, () -> x.append(-1));
        Check.fails("append(65536 + 49)", x, ARGUMENT, () -> x.append(65536 + 49));
        Check.same("append(33)", x.append(33), 1);
        Check.same("append(126)", x.append(126), 2);
        for (int length = 3; length <= 60; length++) {
            Check.same("append(49)", x.append(49), length);
        }
        Check.fails("append(49) to 60 characters", x, STATE, () -> x.append(49));
        Check.fails("append(32) to 60 characters", x, ARGUMENT, () -> x.append(32));
        Check.same("count(8): append() is not undoable", x.count(8), 0);
    }

    private static void clearBuffer() {
        HallSights x = new HallSights();
        Check.same("clearBuffer() of none", x.clearBuffer(), 0);
        long empty = x.digest();
        Check.write(x, "5^0*1x");
        Check.holds("the buffer is in the digest", x.digest() != empty);
        Check.same("clearBuffer()", x.clearBuffer(), 6);
        Check.same("the digest after clearBuffer()", x.digest(), empty);
        Check.same("firstError() after clearBuffer()", x.firstError(), 0);
        Check.same("append(49) after clearBuffer()", x.append(49), 1);
        Check.same("count(8): clearBuffer() is not undoable", x.count(8), 0);
    }

    /** A ! stands behind the place where the error is due; without one there is none. */
    private static void firstError() {
        String[] texts = {"", "1", "9", "0!", "10", "999", "1000!", "0!1^5*5", "^!", "*!",
            ";!", "x!", "-!1", "5^", "5*!", "5;!", "5^0", "5^00!", "5^01!", "5^1", "5^999",
            "5^1000!", "5^^!", "5^*!", "5^;!", "5^0*", "5^0^!", "5^0;!", "5^0*0!", "5^0*1",
            "5^0*9", "5^0*10", "5^0*11", "5^0*12", "5^0*13!", "5^0*20!", "5^0*99!", "5^0*100!",
            "5^0*120!", "5^0*0!1", "5^0**!", "5^0*;!", "5^0*1^!", "5^0*1*!", "5^0*1;", "5^0*12;",
            "5^0*1;;!", "5^0*1;0!", "5^0*1;x!", "5^0*1;5^0*1", "5^0*1;999^999*12;1",
            "5^0*1;5^0*13!", "1^1*1;1^1*1;1^1*1;1^1*1;1^1*1;1^1*1;1^1*1;1^1*1;1^1*1;1^1*",
            "1^1*1;1^1*1;1^1*1;1^1*1;1^1*1;1^1*1;1^1*1;1^1*1;1^1*1;1^1*1;", "5/!",
            "5:!", "5^0*1:!", "5^0*1/!"};
        for (String marked : texts) {
            int mark = marked.indexOf('!');
            String text = marked.replace("!", "");
            HallSights x = new HallSights();
            Check.write(x, text);
            long due = mark < 0 ? text.length() : mark - 1;
            Check.looks("firstError() of " + text, x, due, () -> x.firstError());
        }
    }

    private static void addAll() {
        HallSights x = new HallSights();
        x.addRow(20, 7, 3);
        x.take(0, 1);
        Check.write(x, "999^999*12;1^0*1;500^40*10");
        Check.same("addAll()", x.addAll(), 3);
        int[][] rows = {{1, 0, 1, 0}, {20, 7, 3, 1}, {500, 40, 10, 0}, {999, 999, 12, 0}};
        Check.same("count(0)", x.count(0), rows.length);
        for (int row = 0; row < rows.length; row++) {
            for (int what = 0; what < 4; what++) {
                Check.same("row(" + row + ", " + what + ")", x.row(row, what), rows[row][what]);
            }
        }
        Check.same("count(8) after addAll()", x.count(8), 3);
        Check.same("the buffer's length after addAll()", x.clearBuffer(), 0);
        Check.same("undo() of addAll()", x.undo(), 2);
        Check.same("count(0) after undo()", x.count(0), 1);
        Check.same("row(0, 3) after undo()", x.row(0, 3), 1);
    }

    private static void addAllUpToTheFirstThatThrows() {
        HallSights x = new HallSights();
        x.addRow(20, 7, 3);
        Check.write(x, "10^0*1;20^0*1;30^0*1");
        Check.same("addAll() up to a distance that is there", x.addAll(), 1);
        Check.same("count(0)", x.count(0), 2);
        Check.write(x, "20^0*1");
        Check.same("addAll() of none", x.addAll(), 0);
        Check.same("count(8)", x.count(8), 3);
        Check.same("the buffer's length after addAll() of none", x.clearBuffer(), 0);
        Check.same("undo()", x.undo(), 2);
        Check.same("count(0) after undo()", x.count(0), 2);
        Check.write(x, "5^0*1;6^0*1;5^0*1;7^0*1");
        Check.same("addAll() up to a distance that it added", x.addAll(), 2);
        Check.write(x, "1^1*1;2^1*1;3^1*1;4^1*1;7^1*1;8^1*1;9^1*1");
        Check.same("addAll() up to 10 rows", x.addAll(), 6);
        Check.same("count(0)", x.count(0), 10);
        Check.write(x, "100^1*1");
        Check.same("addAll() to 10 rows", x.addAll(), 0);
        HallSights y = new HallSights();
        Check.write(y, "1^1*1;2^1*1;3^1*1;4^1*1;5^1*1;6^1*1;7^1*1;8^1*1;9^1*1;10^1*2");
        Check.same("addAll() of 60 characters", y.addAll(), 10);
        Check.same("row(9, 2)", y.row(9, 2), 2);
    }

    private static void addAllRefuses() {
        String[] texts = {"", "5", "5^", "5^0", "5^0*", "5^0*1;", "5^0*1;7", "5^0*1;7^0*",
            "5^0*1x", "x", "05^0*1", "5^0*13", "5^1000*1", "5^0*1;;6^0*1", "5^0*0"};
        for (String text : texts) {
            HallSights x = new HallSights();
            Check.write(x, text);
            Check.fails("addAll() of " + text, x, ARGUMENT, () -> x.addAll());
            Check.same("clearBuffer() after it", x.clearBuffer(), text.length());
            Check.write(x, "5^0*12");
            Check.same("addAll() of the next text", x.addAll(), 1);
            Check.same("its seats", x.count(2), 12);
        }
    }

    private static void undo() {
        HallSights x = new HallSights();
        x.addRow(10, 0, 3);
        x.take(0, 2);
        x.addColumn(5, 0, 1);
        x.set(2, 50);
        Check.same("undo() of set()", x.undo(), 3);
        Check.same("setting(2)", x.setting(2), 12);
        Check.same("count(1)", x.count(1), 1);
        Check.same("undo() of addColumn()", x.undo(), 2);
        Check.same("count(1)", x.count(1), 0);
        Check.same("undo() of take()", x.undo(), 1);
        Check.same("count(3)", x.count(3), 0);
        x.lift(0, 9);
        Check.same("count(8) after another call", x.count(8), 2);
        Check.same("undo() of lift()", x.undo(), 1);
        Check.same("row(0, 1)", x.row(0, 1), 0);
        Check.same("undo() of addRow()", x.undo(), 0);
        Check.same("count(0)", x.count(0), 0);
        Check.fails("undo() of nothing", x, STATE, () -> x.undo());
    }

    private static void undoDropsTheOldest() {
        HallSights x = new HallSights();
        x.addRow(10, 0, 1);
        for (int height = 1; height <= 20; height++) {
            x.lift(0, height);
            Check.same("count(8)", x.count(8), Math.min(6, height + 1));
        }
        Check.fails("a call that throws saves nothing", x, ARGUMENT, () -> x.lift(0, -1));
        for (int left = 5; left >= 0; left--) {
            Check.same("undo()", x.undo(), left);
            Check.same("row(0, 1)", x.row(0, 1), 14 + left);
        }
        Check.fails("undo() of a dropped state", x, STATE, () -> x.undo());
        x.lift(0, 500);
        Check.same("undo() after all were dropped", x.undo(), 0);
        Check.same("row(0, 1)", x.row(0, 1), 14);
    }

    private static void undoLeavesTheBuffer() {
        HallSights x = new HallSights();
        x.addRow(10, 0, 1);
        Check.write(x, "30^0*1");
        x.undo();
        Check.same("firstError() after undo()", x.firstError(), 6);
        Check.same("addAll() after undo()", x.addAll(), 1);
        x.undo();
        Check.same("the buffer after undo() of addAll()", x.clearBuffer(), 0);
    }
}
