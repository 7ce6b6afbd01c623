import java.lang.reflect.Method;
import java.lang.reflect.Modifier;
import java.util.Set;
import java.util.TreeSet;

/** Sentences of "Terms" about the buffer, undo, exceptions, constants, the interface's parts. */
final class RuleEdges {
    /** Ten rows in 60 characters. */
    private static final String SIXTY =
            "1^0*1;2^0*1;3^0*1;4^0*1;5^0*1;6^0*1;7^0*1;8^0*1;9^0*1;10^0*1";

    private RuleEdges() {
    }

    static void all() {
        inputText();
        undo();
        exceptions();
        parts();
    }

    private static void inputText() {
        Sentences.part("Input text");
        Sentences.test("The buffer has at most 60 characters.", RuleEdges::sixtyCharacters);
        Sentences.test("Rows as a text are one or more rows", RuleEdges::oneOrMoreRows);
        Sentences.test("with \";\" between them", RuleEdges::semicolonsBetween);
        Sentences.test("each a distance, 1 to 999, \"^\"", RuleEdges::distanceInText);
        Sentences.test("a height, 0 to 999, \"*\"", RuleEdges::heightInText);
        Sentences.test("and a number of seats, 1 to 12.", RuleEdges::seatsInText);
        Sentences.test("Numbers are without leading zeros.", RuleEdges::leadingZeros);
        Sentences.test("The buffer is read from left to right", RuleEdges::leftToRight);
        Sentences.test("a character is a syntax error if no rows as a text, of any length, begin"
                + " with the characters before it and this character", RuleEdges::ofAnyLength);
        Sentences.test("(How many rows there are", RuleEdges::rowsAreNoSyntax);
        Sentences.test("and whether distances are unlike, is no matter of syntax.)",
                RuleEdges::distancesAreNoSyntax);
    }

    private static void undo() {
        Sentences.part("Undo");
        Sentences.test("Each method that is marked \"undoable\"", RuleEdges::undoableCalls);
        Sentences.test("and does not throw an exception", RuleEdges::refusedCallsSaveNothing);
        Sentences.test("saves the state from before it", RuleEdges::stateFromBefore);
        Sentences.test("(also if it changes nothing)", RuleEdges::changesNothing);
        Sentences.test("all but the buffer and the saved states.", RuleEdges::allButTheBuffer);
        Sentences.test("At most 6 states are saved", RuleEdges::sixStates);
        Sentences.test("the oldest one is dropped first.", RuleEdges::oldestDropped);
    }

    private static void exceptions() {
        Sentences.part("Exceptions");
        Sentences.test("A call that throws an exception changes nothing.",
                RuleEdges::refusedCallsChangeNothing);
        Sentences.test("If several exceptions apply, the one that is named first in the throws"
                + " clause is thrown.", RuleEdges::firstNamed);
        Sentences.test("The constants: `NONE = -1`: There is nothing to return.", RuleEdges::none);
    }

    private static void parts() {
        Sentences.test("Ahead of the calls `addRow`, `removeRow`, `lift`, `addColumn`,"
                + " `removeColumn`, `set` the interface says: ---- rows, columns.",
                () -> calls("addRow", "removeRow", "lift", "addColumn", "removeColumn", "set"));
        Sentences.test("Ahead of the calls `take`, `leave`, `seatParty`, `clear`, `liftAll` the"
                + " interface says: ---- people.",
                () -> calls("take", "leave", "seatParty", "clear", "liftAll"));
        Sentences.test("Ahead of the calls `append`, `clearBuffer`, `firstError`, `addAll`, `undo`"
                + " the interface says: ---- texts.",
                () -> calls("append", "clearBuffer", "firstError", "addAll", "undo"));
        Sentences.test("Ahead of the calls `row`, `seat`, `column`, `best`, `whoBlocks`, `count`,"
                + " `setting` the interface says: ---- looks; nothing is changed.",
                RuleEdges::looksChangeNothing);
        Sentences.test("Ahead of the calls `leastHeight`, `ifLifted`, `ifTaken`, `worstColumn`,"
                + " `seeingShare`, `digest` the interface says: ---- what would be; nothing is"
                + " changed.", RuleEdges::whatWouldBeChangesNothing);
    }

    // ---- input text

    /** Of all characters, just the allowed ones go on with the text. */
    static void goesOn(String text, String allowed) {
        for (int code = 33; code <= 126; code++) {
            HallSights x = new HallSights();
            Check.write(x, text);
            x.append(code);
            int due = allowed.indexOf(code) < 0 ? text.length() : text.length() + 1;
            Check.same("firstError() of " + text + (char) code, x.firstError(), due);
        }
    }

    static void complete(String text, int rows) {
        Check.same("addAll() of " + text, Halls.withText(text).addAll(), rows);
    }

    static void incomplete(String text) {
        Edge.refuses("addAll() of " + text, Edge.ARGUMENT, () -> Halls.withText(text),
                x -> x.addAll());
    }

    private static void sixtyCharacters() {
        HallSights x = new HallSights();
        for (int length = 1; length <= 60; length++) {
            Check.same("append()", x.append('5'), length);
        }
        Edge.throwsJust("append() to 60 characters", Edge.STATE, x, y -> y.append('5'));
        Check.same("clearBuffer()", x.clearBuffer(), 60);
    }

    private static void oneOrMoreRows() {
        incomplete("");
        complete("5^0*1", 1);
        complete("5^0*1;6^0*1", 2);
        Check.same("ten rows", SIXTY.length(), 60);
        complete(SIXTY, 9);
        HallSights x = new HallSights();
        Check.write(x, SIXTY);
        Check.same("addAll() of 60 characters", x.addAll(), 10);
        Check.same("the last row's seats", x.row(9, 2), 1);
    }

    private static void semicolonsBetween() {
        goesOn("5^0*1;", "123456789");
        goesOn("5^0*1;6", "0123456789^");
        incomplete("5^0*1;");
        incomplete(";5^0*1");
        incomplete("5^0*1;;6^0*1");
        incomplete("5^0*1,6^0*1");
        incomplete("5^0*16^0*1");
        complete("5^0*12;6^999*1;7^0*3", 3);
    }

    private static void distanceInText() {
        goesOn("", "123456789");
        goesOn("1", "0123456789^");
        goesOn("9", "0123456789^");
        goesOn("10", "0123456789^");
        goesOn("99", "0123456789^");
        goesOn("100", "^");
        goesOn("999", "^");
        HallSights x = Halls.withText("1^0*1;999^0*1");
        x.addAll();
        Check.same("the least distance", x.row(0, 0), 1);
        Check.same("the greatest distance", x.row(2, 0), 999);
        incomplete("0^0*1");
        incomplete("1000^0*1");
        incomplete("^0*1");
        incomplete("5");
    }

    private static void heightInText() {
        goesOn("5^", "0123456789");
        goesOn("5^0", "*");
        goesOn("5^1", "0123456789*");
        goesOn("5^99", "0123456789*");
        goesOn("5^100", "*");
        goesOn("5^999", "*");
        HallSights x = Halls.withText("5^0*1;6^999*1");
        x.addAll();
        Check.same("the least height", x.row(0, 1), 0);
        Check.same("the greatest height", x.row(1, 1), 999);
        incomplete("5^1000*1");
        incomplete("5^*1");
        incomplete("5^0");
        incomplete("5*1");
    }

    private static void seatsInText() {
        goesOn("5^0*", "123456789");
        goesOn("5^0*1", "012;");
        for (int seats = 2; seats <= 12; seats++) {
            goesOn("5^0*" + seats, ";");
        }
        for (int seats = 1; seats <= 12; seats++) {
            HallSights x = Halls.withText("5^0*" + seats);
            x.addAll();
            Check.same("the seats of 5^0*" + seats, x.row(0, 2), seats);
        }
        incomplete("5^0*0");
        incomplete("5^0*13");
        incomplete("5^0*");
    }

    private static void leadingZeros() {
        String[] wrong = {"0", "05^0*1", "5^00*1", "5^07*1", "5^0*01", "5^0*1;06^0*1"};
        int[] due = {0, 0, 3, 3, 4, 6};
        for (int at = 0; at < wrong.length; at++) {
            Check.same("firstError() of " + wrong[at], Halls.withText(wrong[at]).firstError(),
                    due[at]);
            incomplete(wrong[at]);
        }
        goesOn("50", "0123456789^");
        goesOn("5^10", "0123456789*");
        complete("100^100*10", 1);
    }

    private static void leftToRight() {
        Check.same("firstError() of two errors", Halls.withText("5^x^0*13").firstError(), 2);
        Check.same("firstError() of an error and what would be right without it",
                Halls.withText("5^0*13;6^0*1").firstError(), 5);
        Check.same("firstError() of an error at the first", Halls.withText("*5^0*1").firstError(),
                0);
        String last = SIXTY.substring(0, 59) + "x";
        Check.same("firstError() at the last of 60", Halls.withText(last).firstError(), 59);
    }

    /** What begins at the end of 60 characters could only go on behind them: it is no error. */
    private static void ofAnyLength() {
        String rows = SIXTY.substring(0, 54);
        String[] ends = {"10^0*1", "10^0*;", "1^0*1;", "100^99", "1^10*1", "12^34*", "1^0*12"};
        int[] due = {60, 59, 60, 60, 60, 60, 60};
        for (int at = 0; at < ends.length; at++) {
            HallSights x = Halls.withText(rows + ends[at]);
            Check.same("firstError() with " + ends[at] + " at the end of 60", x.firstError(),
                    due[at]);
        }
        incomplete(rows + "1^0*1;");
        incomplete(rows + "100^99");
        Check.same("firstError() of none", Halls.withText("").firstError(), 0);
        Check.same("firstError() of one", Halls.withText("7").firstError(), 1);
    }

    private static void rowsAreNoSyntax() {
        HallSights x = Halls.full();
        Check.write(x, SIXTY);
        Check.same("firstError() of ten rows more than there may be", x.firstError(), 60);
        Check.same("addAll() of them", x.addAll(), 0);
        HallSights y = Halls.withText(SIXTY.substring(0, 54) + "9^0*1;");
        Check.same("firstError() of the beginning of an eleventh row", y.firstError(), 60);
    }

    private static void distancesAreNoSyntax() {
        HallSights x = Halls.withText("500^0*1;7^0*1;7^0*1");
        Check.same("firstError() of distances that are there", x.firstError(), 19);
        Check.same("addAll() of them", x.addAll(), 0);
        HallSights y = Halls.withText("7^0*1;7^0*1;7^0*1");
        Check.same("firstError() of a distance three times", y.firstError(), 17);
        Check.same("addAll() of it", y.addAll(), 1);
    }

    // ---- undo

    private static final String[] UNDOABLE_NAMES = {"addRow", "removeRow", "lift", "addColumn",
        "removeColumn", "set", "take", "leave", "seatParty", "clear", "liftAll", "addAll"};
    private static final Edge.Call[] UNDOABLE = {
        x -> x.addRow(25, 3, 2), x -> x.removeRow(1), x -> x.lift(1, 500),
        x -> x.addColumn(5, 0, 2), x -> x.removeColumn(0), x -> x.set(1, 77), x -> x.take(0, 3),
        x -> x.leave(1, 2), x -> x.seatParty(2), x -> x.clear(), x -> x.liftAll(),
        x -> x.addAll(),
    };

    private static void undoableCalls() {
        for (int call = 0; call < UNDOABLE.length; call++) {
            Edge.changes(UNDOABLE_NAMES[call], UNDOABLE[call]);
            Edge.undoable(UNDOABLE_NAMES[call], UNDOABLE[call]);
        }
        Edge.Call[] others = {x -> x.append('5'), x -> x.clearBuffer(), x -> x.firstError()};
        for (int call = 0; call < others.length; call++) {
            HallSights x = Halls.busy(3);
            others[call].on(x);
            Check.same("saved states behind the other call " + call, x.count(8), 3);
        }
    }

    private static void refusedCallsSaveNothing() {
        Edge.Call[] calls = {x -> x.addRow(0, 0, 1), x -> x.addRow(10, 0, 1), x -> x.removeRow(9),
            x -> x.lift(9, 0), x -> x.lift(0, -1), x -> x.addColumn(0, 0, 0),
            x -> x.removeColumn(4), x -> x.set(3, 0), x -> x.set(0, -1), x -> x.take(9, 0),
            x -> x.take(1, 2), x -> x.leave(9, 0), x -> x.leave(0, 0), x -> x.seatParty(0),
            x -> x.seatParty(12)};
        for (int call = 0; call < calls.length; call++) {
            HallSights x = Halls.busy(2);
            try {
                calls[call].on(x);
                Check.say("the refused call " + call + " answered");
            } catch (RuntimeException thrown) {
                Check.same("saved states behind the refused call " + call, x.count(8), 2);
            }
        }
        HallSights y = Halls.withText("x");
        Edge.throwsJust("addAll() of x", Edge.ARGUMENT, y, z -> z.addAll());
        Check.same("saved states behind addAll()", y.count(8), 1);
    }

    /** Each call's state comes back, the latest first; what is done then does no harm to others. */
    private static void stateFromBefore() {
        HallSights x = Halls.busy(0);
        String[] before = new String[6];
        int[] calls = {0, 6, 3, 5, 2, 10};
        for (int at = 0; at < calls.length; at++) {
            before[at] = Edge.picture(x);
            UNDOABLE[calls[at]].on(x);
        }
        for (int at = 5; at >= 3; at--) {
            Check.same("undo()", x.undo(), at);
            Check.holds("the state " + at, Edge.picture(x).equals(before[at]));
        }
        x.clear();
        x.removeRow(0);
        x.set(2, 99);
        for (int more = 5; more >= 3; more--) {
            Check.same("undo() of what was done then", x.undo(), more);
        }
        Check.holds("the state 3 once more", Edge.picture(x).equals(before[3]));
        for (int at = 2; at >= 0; at--) {
            Check.same("undo()", x.undo(), at);
            Check.holds("the state " + at, Edge.picture(x).equals(before[at]));
        }
    }

    private static void changesNothing() {
        Edge.undoable("lift() to the same height", x -> x.lift(0, 0));
        Edge.undoable("set() to the same value", x -> x.set(2, 12));
        HallSights x = new HallSights();
        Check.same("clear() of nobody", x.clear(), 0);
        Check.same("saved states", x.count(8), 1);
        Check.same("liftAll() of no row", x.liftAll(), 0);
        Check.same("saved states", x.count(8), 2);
        x.set(0, 100);
        Check.same("saved states", x.count(8), 3);
        x.addRow(5, 0, 1);
        Check.write(x, "5^0*1");
        Check.same("addAll() of none", x.addAll(), 0);
        Check.same("saved states", x.count(8), 5);
        Check.same("undo() of addAll()", x.undo(), 4);
        Check.same("rows", x.count(0), 1);
    }

    private static void allButTheBuffer() {
        HallSights x = new HallSights();
        Check.write(x, "5^0*1");
        x.addRow(10, 0, 1);
        Check.write(x, ";6^0*1");
        Check.same("undo()", x.undo(), 0);
        Check.same("the buffer's length", x.clearBuffer(), 11);
        x.addRow(10, 0, 1);
        x.undo();
        Check.same("the length of a cleared buffer", x.clearBuffer(), 0);
        Check.write(x, "7^0*2");
        x.addAll();
        Check.same("undo() of addAll()", x.undo(), 0);
        Check.same("the buffer that addAll() cleared", x.clearBuffer(), 0);
        Check.same("saved states do not come back", x.count(8), 0);
    }

    private static void sixStates() {
        HallSights x = new HallSights();
        for (int call = 1; call <= 20; call++) {
            x.set(0, call);
            Check.same("saved states behind " + call + " changes", x.count(8), Math.min(6, call));
        }
        for (int left = 5; left >= 0; left--) {
            Check.same("undo()", x.undo(), left);
        }
        Edge.throwsJust("the seventh undo()", Edge.STATE, x, y -> y.undo());
    }

    private static void oldestDropped() {
        for (int changes = 6; changes <= 15; changes++) {
            HallSights x = new HallSights();
            for (int value = 1; value <= changes; value++) {
                x.set(0, 500 + value);
            }
            for (int back = 1; back <= 6; back++) {
                x.undo();
                int due = changes == back ? 100 : 500 + changes - back;
                Check.same("setting(0) behind " + changes + " changes and " + back + " undo()",
                        x.setting(0), due);
            }
            Edge.throwsJust("one more undo()", Edge.STATE, x, y -> y.undo());
        }
    }

    // ---- exceptions

    private static void refusedCallsChangeNothing() {
        Edge.Call[] arguments = {x -> x.addRow(1000, 0, 1), x -> x.lift(0, 1000),
            x -> x.addColumn(5, 13, 0), x -> x.set(0, 1000), x -> x.seatParty(13),
            x -> x.append(127), x -> x.row(0, 6), x -> x.seat(0, 0, 7), x -> x.column(0, 4),
            x -> x.best(-1), x -> x.count(9), x -> x.ifLifted(0, 1000)};
        Edge.Call[] indexes = {x -> x.removeRow(4), x -> x.lift(4, 0), x -> x.removeColumn(2),
            x -> x.set(3, 0), x -> x.take(4, 0), x -> x.leave(4, 0), x -> x.row(4, 0),
            x -> x.seat(0, 4, 0), x -> x.column(2, 0), x -> x.whoBlocks(0, 4),
            x -> x.setting(3), x -> x.leastHeight(4), x -> x.ifLifted(4, 0), x -> x.ifTaken(0, 4)};
        Edge.Call[] states = {x -> x.addRow(20, 0, 1), x -> x.take(2, 0), x -> x.leave(0, 0),
            x -> x.seatParty(5)};
        refuseAll("IllegalArgumentException", Edge.ARGUMENT, arguments);
        refuseAll("IndexOutOfBoundsException", Edge.INDEX, indexes);
        refuseAll("IllegalStateException", Edge.STATE, states);
        Edge.refuses("addColumn()", Edge.STATE, Halls::fourColumns, x -> x.addColumn(1, 0, 0));
        Edge.refuses("append()", Edge.STATE, () -> Halls.withText(SIXTY), x -> x.append('5'));
        Edge.refuses("addAll()", Edge.ARGUMENT, () -> Halls.withText("5^"), x -> x.addAll());
        Edge.refuses("undo()", Edge.STATE, () -> Halls.busy(0), x -> x.undo());
    }

    private static void refuseAll(String name, Class<?> due, Edge.Call[] calls) {
        for (int call = 0; call < calls.length; call++) {
            Edge.refuses("the call " + call + " that throws " + name, due, Halls::busy,
                    calls[call]);
        }
    }

    private static void firstNamed() {
        Edge.refuses("addRow() with a wrong distance and 10 rows", Edge.ARGUMENT, Halls::full,
                x -> x.addRow(0, 0, 1));
        Edge.refuses("addRow() with wrong seats and a distance that is there", Edge.ARGUMENT,
                Halls::busy, x -> x.addRow(10, 0, 13));
        Edge.refuses("addRow() with a wrong height and a distance that is there", Edge.ARGUMENT,
                Halls::busy, x -> x.addRow(10, 1000, 1));
        Edge.refuses("lift() of no row to a wrong height", Edge.INDEX, Halls::busy,
                x -> x.lift(4, 1000));
        Edge.refuses("addColumn() with a wrong half width and 4 columns", Edge.ARGUMENT,
                Halls::fourColumns, x -> x.addColumn(1, 0, 6));
        Edge.refuses("addColumn() with a wrong side and 4 columns", Edge.ARGUMENT,
                Halls::fourColumns, x -> x.addColumn(1, -13, 0));
        Edge.refuses("addColumn() with a wrong distance and 4 columns", Edge.ARGUMENT,
                Halls::fourColumns, x -> x.addColumn(1000, 0, 0));
        Edge.refuses("set() of no setting to a wrong value", Edge.INDEX, Halls::busy,
                x -> x.set(3, -1));
        Edge.refuses("seatParty() of too many in a full hall", Edge.ARGUMENT, Halls::full,
                x -> x.seatParty(13));
        Edge.refuses("seatParty() of none in a full hall", Edge.ARGUMENT, Halls::full,
                x -> x.seatParty(0));
        Edge.refuses("append() of a wrong code to 60 characters", Edge.ARGUMENT,
                () -> Halls.withText(SIXTY), x -> x.append(32));
        Edge.refuses("row() of no row and no property", Edge.INDEX, Halls::busy,
                x -> x.row(4, 6));
        Edge.refuses("seat() of no row and no property", Edge.INDEX, Halls::busy,
                x -> x.seat(4, 0, 7));
        Edge.refuses("seat() of no seat and no property", Edge.INDEX, Halls::busy,
                x -> x.seat(0, 4, -1));
        Edge.refuses("column() of no column and no property", Edge.INDEX, Halls::busy,
                x -> x.column(2, 4));
        Edge.refuses("ifLifted() of no row to a wrong height", Edge.INDEX, Halls::busy,
                x -> x.ifLifted(-1, -1));
    }

    private static void none() {
        Check.same("NONE", HallSights.NONE, -1);
        HallSights x = new HallSights();
        Check.same("best(0) of no seat", x.best(0), HallSights.NONE);
        Check.same("worstColumn() of no column", x.worstColumn(), HallSights.NONE);
        x.addRow(10, 0, 1);
        Check.same("whoBlocks() of nobody", x.whoBlocks(0, 0), HallSights.NONE);
    }

    // ---- the interface's parts

    private static void calls(String... names) {
        Set<String> found = new TreeSet<>();
        for (Method method : HallSights.class.getDeclaredMethods()) {
            if (Modifier.isPublic(method.getModifiers())) {
                found.add(method.getName());
            }
        }
        for (String name : names) {
            Check.holds("there is a call " + name, found.contains(name));
        }
    }

    private static void looksChangeNothing() {
        changeNothing(x -> x.row(1, 4), x -> x.seat(2, 1, 6), x -> x.column(1, 3), x -> x.best(2),
                x -> x.whoBlocks(2, 1), x -> x.count(6), x -> x.setting(2));
    }

    private static void whatWouldBeChangesNothing() {
        changeNothing(x -> x.leastHeight(2), x -> x.ifLifted(1, 999), x -> x.ifLifted(0, 998),
                x -> x.ifTaken(0, 2), x -> x.worstColumn(), x -> (long) x.seeingShare(),
                x -> x.digest());
    }

    private static void changeNothing(Edge.Call... looks) {
        for (int look = 0; look < looks.length; look++) {
            HallSights seen = Halls.busy();
            looks[look].on(seen);
            looks[look].on(seen);
            Check.holds("the look " + look + " changes nothing",
                    Edge.digests(seen).equals(Edge.digests(Halls.busy())));
        }
    }
}
