import java.util.ArrayList;
import java.util.List;

/** What the tests of boundary cases share. */
final class Edge {
    static final Class<?> ARGUMENT = IllegalArgumentException.class;
    static final Class<?> STATE = IllegalStateException.class;
    static final Class<?> INDEX = IndexOutOfBoundsException.class;
    static final int LEAST = Integer.MIN_VALUE;
    static final int GREATEST = Integer.MAX_VALUE;
    static final int NONE = -1;

    interface Make {
        HallSights hall();
    }

    interface Call {
        long on(HallSights hall);
    }

    /** A call with one argument that the test chooses. */
    interface CallWith {
        long on(HallSights hall, int argument);
    }

    private Edge() {
    }

    /** The call throws just this exception, and leaves all as it was, each saved state too. */
    static void refuses(String what, Class<?> due, Make make, Call call) {
        HallSights tried = make.hall();
        throwsJust(what, due, tried, call);
        Check.holds(what + " changes nothing", digests(tried).equals(digests(make.hall())));
    }

    static void refusesEach(String what, Class<?> due, Make make, CallWith call, int... arguments) {
        for (int argument : arguments) {
            refuses(what + " with " + argument, due, make, x -> call.on(x, argument));
        }
    }

    static void throwsJust(String what, Class<?> due, HallSights hall, Call call) {
        try {
            Check.say(what + " answered " + call.on(hall) + ", due is " + due.getName());
        } catch (RuntimeException thrown) {
            if (thrown.getClass() != due) {
                Check.say(what + " threw " + thrown + ", due is " + due.getName());
            }
        }
    }

    /** The call answers so, and leaves all as it was, each saved state too. */
    static void looks(String what, long due, Make make, Call call) {
        HallSights seen = make.hall();
        Check.same(what, call.on(seen), due);
        Check.holds(what + " changes nothing", digests(seen).equals(digests(make.hall())));
    }

    /** The call saves the state from before it, whether none, some or 6 states are saved. */
    static void undoable(String what, Call call) {
        for (int saved = 0; saved <= 6; saved++) {
            HallSights changed = Halls.busy(saved);
            call.on(changed);
            List<String> due = pictures(Halls.busy(saved));
            List<String> got = pictures(changed);
            String behind = what + " behind " + saved + " saved states";
            Check.same(behind + ": states", got.size() - 1, Math.min(6, saved + 1));
            for (int back = 1; back < got.size() && back <= due.size(); back++) {
                Check.holds(behind + ": state " + back + " back",
                        got.get(back).equals(due.get(back - 1)));
            }
        }
    }

    /** The call changes what undo() brings back. */
    static void changes(String what, Call call) {
        HallSights changed = Halls.busy();
        call.on(changed);
        Check.holds(what + " changes something",
                !picture(changed).equals(picture(Halls.busy())));
    }

    /** Digests of the hall, and of each saved state behind it, the latest first. */
    static List<Long> digests(HallSights x) {
        List<Long> all = new ArrayList<>();
        all.add(x.digest());
        for (int left = x.count(8); left > 0; left--) {
            x.undo();
            all.add(x.digest());
        }
        return all;
    }

    /** Pictures of the hall, and of each saved state behind it, the latest first. */
    private static List<String> pictures(HallSights x) {
        List<String> all = new ArrayList<>();
        all.add(picture(x));
        for (int left = x.count(8); left > 0; left--) {
            x.undo();
            all.add(picture(x));
        }
        return all;
    }

    /** All that undo() brings back: settings, rows, who sits there, columns. */
    static String picture(HallSights x) {
        StringBuilder all = new StringBuilder();
        for (int setting = 0; setting < 3; setting++) {
            all.append(x.setting(setting)).append(' ');
        }
        int rows = x.count(0);
        for (int row = 0; row < rows; row++) {
            all.append("| ").append(rowPicture(x, row));
        }
        int columns = x.count(1);
        for (int column = 0; column < columns; column++) {
            all.append("/ ").append(columnPicture(x, column));
        }
        return all.toString();
    }

    /** Distance, height, and a sign for each seat: # if it is taken. */
    static String rowPicture(HallSights x, int row) {
        StringBuilder all = new StringBuilder();
        all.append(x.row(row, 0)).append('^').append(x.row(row, 1)).append(' ');
        int seats = x.row(row, 2);
        for (int seat = 0; seat < seats; seat++) {
            all.append(x.seat(row, seat, 1) == 1 ? '#' : '.');
        }
        return all.toString();
    }

    /** Distance, side and half width. */
    static String columnPicture(HallSights x, int column) {
        return x.column(column, 0) + " " + x.column(column, 1) + " " + x.column(column, 2);
    }

    static void rowIs(HallSights x, int row, String due) {
        Check.holds("row " + row + " is " + due + " (it is " + rowPicture(x, row) + ")",
                rowPicture(x, row).equals(due));
    }

    static void columnIs(HallSights x, int column, String due) {
        Check.holds("column " + column + " is " + due + " (it is " + columnPicture(x, column) + ")",
                columnPicture(x, column).equals(due));
    }

    /** The look's answers for 0, 1, 2 and so on are these. */
    static void allAre(String what, HallSights x, CallWith look, int... due) {
        for (int at = 0; at < due.length; at++) {
            Check.same(what + " of " + at, look.on(x, at), due[at]);
        }
    }
}
