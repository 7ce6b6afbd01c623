/** What all tests share: they print every answer that is not as due, and end with exit code 1 then. */
final class Check {
    interface Call {
        long answer();
    }

    private static int wrong = 0;
    private static String where = "";

    private Check() {
    }

    /** What is found wrong from here on is told with this place; none if it is empty. */
    static void within(String place) {
        where = place.isEmpty() ? "" : place + ": ";
    }

    static void same(String what, long got, long want) {
        if (got != want) {
            say(what + " answered " + got + ", due is " + want);
        }
    }

    static void holds(String what, boolean claim) {
        if (!claim) {
            say(what + " does not hold");
        }
    }

    static void say(String fault) {
        wrong++;
        System.out.println(where + fault);
    }

    /** The call throws just this exception, and changes nothing. */
    static void fails(String what, HallSights hall, Class<?> want, Call call) {
        long before = hall.digest();
        try {
            say(what + " answered " + call.answer() + ", due is " + want.getName());
        } catch (RuntimeException thrown) {
            if (thrown.getClass() != want) {
                say(what + " threw " + thrown + ", due is " + want.getName());
            }
        }
        same(what + ": the digest after the exception", hall.digest(), before);
    }

    /** The call answers so, and changes nothing. */
    static void looks(String what, HallSights hall, long want, Call call) {
        long before = hall.digest();
        same(what, call.answer(), want);
        same(what + ": the digest after the look", hall.digest(), before);
    }

    /** The call answers so and saves one state, which undo() brings back; then it is called again. */
    static void undoable(String what, HallSights hall, long want, Call call) {
        String before = Edge.picture(hall);
        int saved = Math.min(6, hall.count(8) + 1);
        same(what, call.answer(), want);
        String after = Edge.picture(hall);
        same(what + ": saved states", hall.count(8), saved);
        same(what + ": undo()", hall.undo(), saved - 1);
        holds(what + ": the picture after undo()", Edge.picture(hall).equals(before));
        same(what + " once more", call.answer(), want);
        holds(what + " once more: the picture", Edge.picture(hall).equals(after));
    }

    static void write(HallSights hall, String text) {
        for (int at = 0; at < text.length(); at++) {
            hall.append(text.charAt(at));
        }
    }

    /** Prints the verdict; ends the run with exit code 1 if anything was wrong. */
    static void end(String test) {
        System.out.println(test + ": " + (wrong == 0 ? "all as due" : wrong + " not as due"));
        if (wrong != 0) {
            System.exit(1);
        }
    }
}
