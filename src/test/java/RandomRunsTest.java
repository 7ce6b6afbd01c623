import java.lang.reflect.InvocationTargetException;
import java.lang.reflect.Method;
import java.lang.reflect.Modifier;
import java.util.ArrayList;
import java.util.Comparator;
import java.util.List;
import java.util.Random;

/** Long runs of calls, always the same ones, on the program and on PlainHall side by side. */
final class RandomRunsTest {
    private static final int RUNS = 240;
    private static final int CALLS = 300;
    private static final int CALLS_PER_DIGEST = 40;
    private static final int MOST_SAID = 20;
    private static final int[] ODD = {-1, 0, 1, 999, 1000, -2, 12, 13, Integer.MAX_VALUE,
        Integer.MIN_VALUE, 60, 300, 301, 100, 101};
    private static final String[] PIECES = {"1", "2", "0", "9", "^", "*", ";", "10^0*4",
        "7^0*12;", "99^5*1", "12", "13", "999", "1000", "20^30*5;", "x"};

    private RandomRunsTest() {
    }

    public static void main(String[] args) throws ReflectiveOperationException {
        List<Method[]> calls = pairs();
        Check.same("calls of the face", calls.size(), 29);
        int told = 0;
        for (int run = 0; run < RUNS && told < MOST_SAID; run++) {
            String fault = compare(calls, new Random(1000L + run), run % 6);
            if (fault != null) {
                told++;
                Check.say("run " + run + ": " + fault);
            }
        }
        Check.end("RandomRunsTest");
    }

    private static List<Method[]> pairs() throws NoSuchMethodException {
        List<Method[]> pairs = new ArrayList<>();
        for (Method method : HallSights.class.getDeclaredMethods()) {
            if (Modifier.isPublic(method.getModifiers())) {
                pairs.add(new Method[] {method, PlainHall.class.getDeclaredMethod(
                        method.getName(), method.getParameterTypes())});
            }
        }
        pairs.sort(Comparator.comparing((Method[] pair) -> pair[0].getName()));
        return pairs;
    }

    /** Returns the last calls up to the first one that answers otherwise, or null. */
    private static String compare(List<Method[]> calls, Random random, int kind)
            throws ReflectiveOperationException {
        HallSights program = new HallSights();
        PlainHall plain = new PlainHall();
        StringBuilder run = new StringBuilder();
        String fault = furnish(program, plain, random, kind);
        for (int call = 0; call < CALLS && fault == null; call++) {
            Method[] pair = calls.get(random.nextInt(calls.size()));
            String name = pair[0].getName();
            if (name.equals("digest") || rarely(name, random)) {
                continue;
            }
            if (name.equals("append")) {
                fault = appendPiece(program, plain, random);
                continue;
            }
            Object[] arguments = new Object[pair[0].getParameterCount()];
            for (int at = 0; at < arguments.length; at++) {
                arguments[at] = argument(name, at, plain, random);
            }
            run.append("; ").append(name).append(List.of(arguments));
            String got = answer(pair[0], program, arguments);
            String want = answer(pair[1], plain, arguments);
            run.append(" -> ").append(want);
            if (!got.equals(want)) {
                fault = "answered " + got + " at the end of" + run;
            } else if (call % CALLS_PER_DIGEST == 0 && program.digest() != plain.digest()) {
                fault = "another digest at the end of" + run;
            }
        }
        return fault == null && program.digest() != plain.digest()
                ? "another digest at the end of" + run : fault;
    }

    /** Calls that empty the hall come less often, so that there is something to see in it. */
    private static boolean rarely(String name, Random random) {
        boolean empties = name.equals("removeRow") || name.equals("clear")
                || name.equals("removeColumn") || name.equals("clearBuffer")
                || name.equals("liftAll");
        return empties && random.nextInt(5) != 0;
    }

    /** Kinds of halls: empty, near, far, deep, steep and full ones. */
    private static String furnish(HallSights program, PlainHall plain, Random random, int kind) {
        int rows = kind == 0 ? 0 : 3 + random.nextInt(8);
        for (int row = 0; row < rows; row++) {
            int distance = kind == 1 ? 1 + random.nextInt(20)
                    : kind == 2 ? 980 + random.nextInt(20) : 10 + row * (1 + random.nextInt(20));
            int height = kind == 3 ? random.nextInt(30) : kind == 4 ? row * random.nextInt(60) : 0;
            int seats = kind == 5 ? 12 : 1 + random.nextInt(12);
            if (plain.count(0) == 10) {
                break;
            }
            try {
                int got = program.addRow(distance, height, seats);
                if (got != plain.addRow(distance, height, seats)) {
                    return "addRow(" + distance + ") answered " + got;
                }
            } catch (IllegalStateException twice) {
                continue;
            }
        }
        for (int person = 0; person < 60 && kind != 0; person++) {
            int row = random.nextInt(plain.count(0));
            int seat = random.nextInt(plain.row(row, 2));
            if (plain.seat(row, seat, 1) == 0) {
                int got = program.take(row, seat);
                if (got != plain.take(row, seat)) {
                    return "take(" + row + ", " + seat + ") answered " + got;
                }
            }
        }
        return null;
    }

    private static String appendPiece(HallSights program, PlainHall plain, Random random) {
        String piece = PIECES[random.nextInt(PIECES.length)];
        for (int at = 0; at < piece.length() && program.firstError() < 60; at++) {
            try {
                program.append(piece.charAt(at));
            } catch (IllegalStateException full) {
                return null;
            }
            plain.append(piece.charAt(at));
        }
        return program.firstError() == plain.firstError() ? null
                : "another firstError() behind " + piece;
    }

    private static Integer argument(String name, int at, PlainHall plain, Random random) {
        if (random.nextInt(25) == 0) {
            return ODD[random.nextInt(ODD.length)];
        }
        if (name.equals("addRow")) {
            return at == 0 ? 1 + random.nextInt(random.nextBoolean() ? 60 : 999)
                    : at == 1 ? random.nextInt(random.nextBoolean() ? 50 : 1000)
                    : 1 + random.nextInt(12);
        }
        if (name.equals("addColumn")) {
            return at == 0 ? 1 + random.nextInt(random.nextBoolean() ? 60 : 999)
                    : at == 1 ? random.nextInt(25) - 12 : random.nextInt(6);
        }
        if (name.equals("set")) {
            return at == 0 ? random.nextInt(3) : random.nextInt(random.nextBoolean() ? 60 : 310);
        }
        if (name.equals("seatParty")) {
            return 1 + random.nextInt(random.nextBoolean() ? 4 : 12);
        }
        if (name.equals("best")) {
            return random.nextInt(40);
        }
        if (name.equals("count")) {
            return random.nextInt(9);
        }
        if (name.equals("setting")) {
            return random.nextInt(3);
        }
        return laterArgument(name, at, plain, random);
    }

    private static Integer laterArgument(String name, int at, PlainHall plain, Random random) {
        boolean ofColumn = name.equals("column") || name.equals("removeColumn");
        if (at == 0) {
            return random.nextInt(Math.max(1, plain.count(ofColumn ? 1 : 0)));
        }
        if (name.equals("lift") || name.equals("ifLifted")) {
            return random.nextInt(random.nextBoolean() ? 150 : 1000);
        }
        if (name.equals("row") || name.equals("column") || at == 2) {
            return random.nextInt(7);
        }
        return random.nextInt(12);
    }

    private static String answer(Method method, Object object, Object[] arguments)
            throws IllegalAccessException {
        try {
            return String.valueOf(method.invoke(object, arguments));
        } catch (InvocationTargetException thrown) {
            return thrown.getCause().getClass().getName();
        }
    }
}
