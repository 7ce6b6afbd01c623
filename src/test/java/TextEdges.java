/** Sentences of the promises 13 to 17: the buffer, the rows in it, undo. */
final class TextEdges {
    private static final String TEN =
            "1^1*1;2^1*1;3^1*1;4^1*1;5^1*1;6^1*1;7^1*1;8^1*1;9^1*1;10^1*2";

    private TextEdges() {
    }

    static void all() {
        append();
        clearBuffer();
        firstError();
        addAll();
        undo();
    }

    private static void append() {
        Sentences.part("Promise 13");
        Sentences.test("Appends a character to the buffer.", TextEdges::appendOne);
        Sentences.test("`code`: the character code, 33 to 126", TextEdges::codes);
        Sentences.test("Returns the new length of the buffer.", TextEdges::newLength);
        Sentences.test("Throws `IllegalArgumentException` if code is not 33 to 126",
                TextEdges::wrongCodes);
        Sentences.test("Throws `IllegalStateException` if the buffer has 60 characters",
                TextEdges::fullBuffer);
    }

    private static void clearBuffer() {
        Sentences.part("Promise 14");
        Sentences.test("Clears the buffer.", TextEdges::cleared);
        Sentences.test("Returns the length that it had.", TextEdges::lengthBefore);
    }

    private static void firstError() {
        Sentences.part("Promise 15");
        Sentences.test("Finds the first syntax error of the buffer.", TextEdges::firstOfSeveral);
        Sentences.test("Returns the index of the first character that is a syntax error",
                TextEdges::indexOfError);
        Sentences.test("the length of the buffer if there is none.", TextEdges::noError);
    }

    private static void addAll() {
        Sentences.part("Promise 16");
        Sentences.test("Adds the rows in the buffer as addRow() does", TextEdges::asAddRow);
        Sentences.test("one after the other", TextEdges::oneAfterTheOther);
        Sentences.test("up to the first one that would throw an exception",
                TextEdges::upToTheFirst);
        Sentences.test("and clears the buffer.", TextEdges::addAllClears);
        Sentences.test("Undoable, as one call, also if none is added.", TextEdges::asOneCall);
        Sentences.test("Returns how many are added.", TextEdges::howMany);
        Sentences.test("Throws `IllegalArgumentException` if the buffer is not complete rows as a"
                + " text", TextEdges::notComplete);
    }

    private static void undo() {
        Sentences.part("Promise 17");
        Sentences.test("Restores the latest saved state, and drops it.", TextEdges::latest);
        Sentences.test("Returns how many saved states are left.", TextEdges::statesLeft);
        Sentences.test("Throws `IllegalStateException` if there is none", TextEdges::noState);
    }

    // ---- promise 13

    private static void appendOne() {
        for (int code = 33; code <= 126; code++) {
            HallSights x = new HallSights();
            x.append('a');
            x.append(code);
            // The last character's code is the last value of the digest.
            HallSights y = new HallSights();
            y.append('a');
            y.append(33);
            Check.same("the digest behind append(" + code + ")", x.digest(),
                    y.digest() + code - 33);
        }
    }

    private static void codes() {
        HallSights x = new HallSights();
        Check.same("append(33)", x.append(33), 1);
        Check.same("append(126)", x.append(126), 2);
        Check.same("append(34)", x.append(34), 3);
        Check.same("append(125)", x.append(125), 4);
    }

    private static void newLength() {
        HallSights x = new HallSights();
        for (int length = 1; length <= 60; length++) {
            Check.same("append()", x.append(126), length);
        }
        x.clearBuffer();
        Check.same("append() behind clearBuffer()", x.append(126), 1);
    }

    private static void wrongCodes() {
        Edge.refusesEach("append()", Edge.ARGUMENT, Halls::busy, (x, code) -> x.append(code),
                32, 127, 31, 128, 10, 0, -1, 256 + 49, 65536 + 49, Edge.LEAST, Edge.GREATEST);
        Edge.refusesEach("append() to 60", Edge.ARGUMENT, () -> Halls.withText(TEN),
                (x, code) -> x.append(code), 32, 127);
    }

    private static void fullBuffer() {
        Edge.refusesEach("append() to 60", Edge.STATE, () -> Halls.withText(TEN),
                (x, code) -> x.append(code), 33, 126, '1', ';');
        HallSights x = Halls.withText(TEN.substring(0, 59));
        Check.same("append() to 59", x.append('2'), 60);
        Edge.throwsJust("append() to 60", Edge.STATE, x, y -> y.append('2'));
        Check.same("clearBuffer()", x.clearBuffer(), 60);
        Check.same("append() behind clearBuffer()", x.append('2'), 1);
    }

    // ---- promise 14

    private static void cleared() {
        HallSights x = Halls.withText("5^x");
        long before = Halls.withText("").digest();
        x.clearBuffer();
        Check.same("the digest", x.digest(), before);
        Check.same("firstError()", x.firstError(), 0);
        Edge.throwsJust("addAll()", Edge.ARGUMENT, x, y -> y.addAll());
        Check.write(x, "6^1*2");
        Check.same("addAll() of another text", x.addAll(), 1);
        Edge.rowIs(x, 0, "6^1 ..");
        HallSights y = Halls.busy(4);
        y.clearBuffer();
        Check.same("saved states: it is not undoable", y.count(8), 4);
        Check.same("rows", y.count(0), Halls.busy(4).count(0));
    }

    private static void lengthBefore() {
        Check.same("clearBuffer() of none", new HallSights().clearBuffer(), 0);
        Check.same("clearBuffer() of one", Halls.withText("x").clearBuffer(), 1);
        Check.same("clearBuffer() of 60", Halls.withText(TEN).clearBuffer(), 60);
        HallSights x = Halls.withText(TEN);
        x.clearBuffer();
        Check.same("clearBuffer() once more", x.clearBuffer(), 0);
    }

    // ---- promise 15

    private static void firstOfSeveral() {
        Check.same("firstError() of three errors", Halls.withText("5^0*13;0;").firstError(), 5);
        Check.same("firstError() of errors alone", Halls.withText("~~~~").firstError(), 0);
        Edge.looks("firstError() changes nothing", 2, () -> Halls.withText("5^~"),
                x -> x.firstError());
    }

    private static void indexOfError() {
        Check.same("firstError() at the first", Halls.withText("0").firstError(), 0);
        Check.same("firstError() at the last", Halls.withText("5^0*1x").firstError(), 5);
        for (int at = 0; at < 60; at++) {
            String text = TEN.substring(0, at) + "~" + TEN.substring(at + 1);
            Check.same("firstError() of 60 with ~ at " + at, Halls.withText(text).firstError(),
                    at);
        }
    }

    private static void noError() {
        for (int length = 0; length <= 60; length++) {
            Check.same("firstError() of " + length,
                    Halls.withText(TEN.substring(0, length)).firstError(), length);
        }
    }

    // ---- promise 16

    private static void asAddRow() {
        HallSights x = Halls.withText("999^999*12;1^0*1;499^5*2");
        x.take(0, 2);
        Check.same("addAll()", x.addAll(), 3);
        Edge.rowIs(x, 0, "1^0 .");
        Edge.rowIs(x, 1, "499^5 ..");
        Edge.rowIs(x, 2, "500^7 ..#");
        Edge.rowIs(x, 3, "999^999 ............");
        HallSights y = Halls.full();
        y.removeRow(9);
        Check.write(y, "999^0*12");
        y.addAll();
        Edge.rowIs(y, 9, "999^0 ............");
    }

    private static void oneAfterTheOther() {
        HallSights x = Halls.withText("6^1*1;5^2*2;6^3*3;7^4*4");
        Check.same("addAll() up to a distance that it has added", x.addAll(), 2);
        Edge.rowIs(x, 0, "5^2 ..");
        Edge.rowIs(x, 1, "6^1 .");
        Check.same("rows", x.count(0), 3);
    }

    private static void upToTheFirst() {
        HallSights x = Halls.withText("5^0*1;500^0*1;6^0*1");
        Check.same("addAll() up to a distance that is there", x.addAll(), 1);
        Check.same("rows", x.count(0), 2);
        HallSights y = Halls.withText(TEN);
        Check.same("addAll() up to 10 rows", y.addAll(), 9);
        Check.same("rows", y.count(0), 10);
        Edge.rowIs(y, 9, "500^7 ...");
        HallSights z = Halls.full();
        Check.write(z, "5^0*1");
        Check.same("addAll() to 10 rows", z.addAll(), 0);
        z.removeRow(0);
        Check.write(z, "5^0*1;6^0*1;7^0*1");
        Check.same("addAll() to 9 rows", z.addAll(), 1);
    }

    private static void addAllClears() {
        String[] texts = {"5^0*1", "500^0*1", "5^0*1;500^0*1", TEN};
        for (String text : texts) {
            HallSights x = Halls.withText(text);
            x.addAll();
            Check.same("the length behind addAll() of " + text, x.clearBuffer(), 0);
            Check.same("append() then", x.append('5'), 1);
        }
    }

    private static void asOneCall() {
        Edge.undoable("addAll() of two", x -> x.addAll());
        HallSights x = Halls.withText(TEN);
        x.addAll();
        Check.same("saved states", x.count(8), 2);
        Check.same("undo() of nine rows", x.undo(), 1);
        Check.same("rows", x.count(0), 1);
        Check.write(x, "500^0*1");
        Check.same("addAll() of none", x.addAll(), 0);
        Check.same("saved states", x.count(8), 2);
        Check.same("undo() of it", x.undo(), 1);
        Check.same("rows", x.count(0), 1);
        Edge.undoable("addAll() of none", y -> {
            y.clearBuffer();
            Check.write(y, "10^0*1;60^0*1");
            return y.addAll();
        });
    }

    private static void howMany() {
        for (int rows = 1; rows <= 9; rows++) {
            HallSights x = new HallSights();
            Check.write(x, TEN.substring(0, 6 * rows - 1));
            Check.same("addAll()", x.addAll(), rows);
        }
        HallSights x = new HallSights();
        Check.write(x, TEN);
        Check.same("addAll() of ten", x.addAll(), 10);
        Check.same("addAll() of none", Halls.withText("500^0*1").addAll(), 0);
    }

    private static void notComplete() {
        String[] texts = {"", "5", "5^", "5^0", "5^0*", "5^0*1;", "5^0*1;6", "5^0*1;6^",
            "5^0*1;6^0", "5^0*1;6^0*", "x", "5^0*1x", "0^0*1", "5^0*0", "5^0*13", "1000^0*1",
            "5^1000*1", "05^0*1", "5^00*1", "5^0*01", ";", ";5^0*1", "5^0*1;;6^0*1", "5*1",
            "500^0*1;", TEN.substring(0, 59) + ";", TEN.substring(0, 59) + "x",
            TEN.substring(0, 54)};
        for (String text : texts) {
            RuleEdges.incomplete(text);
        }
        for (int length = 1; length < 60; length++) {
            String text = TEN.substring(0, length);
            if (length % 6 == 5 && length < 59) {
                RuleEdges.complete(text, (length + 1) / 6);
            } else {
                RuleEdges.incomplete(text);
            }
        }
    }

    // ---- promise 17

    private static void latest() {
        HallSights x = Halls.busy(0);
        String first = Edge.picture(x);
        x.lift(0, 1);
        String second = Edge.picture(x);
        x.clear();
        x.undo();
        Check.holds("undo() brings back who sat", Edge.picture(x).equals(second));
        x.undo();
        Check.holds("undo() brings back the height", Edge.picture(x).equals(first));
        Check.same("saved states: undo() is not undoable", x.count(8), 0);
        HallSights z = Halls.two(10, 0, 20, 0);
        z.take(0, 0);
        Check.same("seats that see", z.count(4), 1);
        z.undo();
        Check.same("seats that see right behind undo()", z.count(4), 2);
        HallSights y = Halls.full();
        y.set(0, 1);
        y.addColumn(5, 0, 0);
        y.removeRow(3);
        y.undo();
        Check.same("rows", y.count(0), 10);
        Check.same("who sits there", y.count(3), 120);
        y.undo();
        Check.same("columns", y.count(1), 0);
        y.undo();
        Check.same("setting(0)", y.setting(0), 100);
    }

    private static void statesLeft() {
        HallSights x = Halls.full();
        for (int left = 5; left >= 0; left--) {
            Check.same("undo()", x.undo(), left);
            Check.same("count(8)", x.count(8), left);
        }
        Check.same("who sits there", x.count(3), 48);
        HallSights y = new HallSights();
        y.clear();
        Check.same("undo() of the only state", y.undo(), 0);
    }

    private static void noState() {
        Edge.refuses("undo() of nothing", Edge.STATE, HallSights::new, x -> x.undo());
        Edge.refuses("undo() behind the last one", Edge.STATE, () -> Halls.busy(0),
                x -> x.undo());
        HallSights x = Halls.busy(6);
        for (int back = 0; back < 6; back++) {
            x.undo();
        }
        Edge.throwsJust("the seventh undo()", Edge.STATE, x, y -> y.undo());
        x.clear();
        Check.same("undo() behind another change", x.undo(), 0);
        Edge.throwsJust("undo() once more", Edge.STATE, x, y -> y.undo());
    }
}
