import java.io.IOException;
import java.lang.reflect.Constructor;
import java.lang.reflect.Field;
import java.lang.reflect.Method;
import java.lang.reflect.Modifier;
import java.util.ArrayList;
import java.util.Arrays;
import java.util.List;
import java.util.Set;
import java.util.TreeSet;
import java.util.regex.Matcher;
import java.util.regex.Pattern;

/** The class has the face that the document tells, and nothing else that is not private. */
final class FaceTest {
    private static final Class<HallSights> FACE = HallSights.class;
    private static final Pattern CALL =
            Pattern.compile("public (\\w+) (\\w+)\\(([^)]*)\\)(?: throws (.*))?;");
    /** A sentence of the document about the interface: the calls, and what it says ahead of them. */
    private static final Pattern AHEAD =
            Pattern.compile("Ahead of the calls (.*) the interface says: ---- (.*)\\.");
    private static final Set<Class<?>> TYPES_OF_CONSTANTS = Set.of(int.class, long.class,
            boolean.class, char.class, String.class, int[].class, long[].class, char[].class,
            byte[].class);

    private FaceTest() {
    }

    public static void main(String[] args) throws IOException {
        List<String> lines = faceOfDocument();
        Check.same("calls of the document's face", callsOf(lines).size(), 29);
        lookAtClass();
        lookAtMethods(callsOf(lines));
        lookAtFieldsAndConstructors();
        for (Class<?> inner : FACE.getDeclaredClasses()) {
            int modifiers = inner.getModifiers();
            Check.holds("rule 1: " + inner + " is private or package-visible, and static",
                    !Modifier.isPublic(modifiers) && !Modifier.isProtected(modifiers)
                            && Modifier.isStatic(modifiers));
            lookAtStatics(inner);
        }
        lookAtWords(lines);
        lookAtWordsAhead();
        Check.end("FaceTest");
    }

    private static List<String> faceOfDocument() throws IOException {
        List<String> lines = new ArrayList<>();
        for (String line : Texts.javaOf(Texts.document())) {
            lines.add(line.trim());
        }
        Check.holds("the document's face is of the class HallSights",
                lines.size() > 2 && lines.get(0).equals("public final class HallSights {"));
        return lines;
    }

    private static Set<String> callsOf(List<String> lines) {
        Set<String> calls = new TreeSet<>();
        for (String line : lines) {
            Matcher call = CALL.matcher(line);
            if (call.matches()) {
                String parameters = call.group(3).replaceAll(" \\w+(, )?", ",");
                String thrown = call.group(4) == null ? "" : call.group(4).replace(" ", "");
                calls.add(call.group(1) + " " + call.group(2) + "("
                        + parameters.replaceAll(",$", "") + ") " + thrown);
            }
        }
        return calls;
    }

    private static void lookAtClass() {
        Check.holds("the class is public and final",
                FACE.getModifiers() == (Modifier.PUBLIC | Modifier.FINAL));
        Check.holds("it has no package", FACE.getPackageName().isEmpty());
        Check.holds("it extends nothing", FACE.getSuperclass() == Object.class);
        Check.same("interfaces", FACE.getInterfaces().length, 0);
    }

    private static void lookAtMethods(Set<String> due) {
        Set<String> publicNames = new TreeSet<>();
        for (Method method : FACE.getDeclaredMethods()) {
            if (!Modifier.isPrivate(method.getModifiers())) {
                Check.holds(told(method) + " is in the document", due.remove(told(method)));
                Check.same(method + ": modifiers", method.getModifiers(), Modifier.PUBLIC);
                publicNames.add(method.getName());
            }
        }
        for (String missing : due) {
            Check.say(missing + " is missing");
        }
        for (Method method : FACE.getDeclaredMethods()) {
            if (Modifier.isPrivate(method.getModifiers())) {
                Check.holds(method + " does not bear a public name",
                        !publicNames.contains(method.getName()));
            }
        }
    }

    private static String told(Method method) {
        return method.getReturnType().getSimpleName() + " " + method.getName()
                + "(" + names(method.getParameterTypes()) + ") "
                + names(method.getExceptionTypes());
    }

    private static String names(Class<?>[] types) {
        StringBuilder all = new StringBuilder();
        for (Class<?> type : types) {
            all.append(all.length() == 0 ? "" : ",").append(type.getSimpleName());
        }
        return all.toString();
    }

    private static void lookAtFieldsAndConstructors() {
        for (Field field : FACE.getDeclaredFields()) {
            boolean none = field.getName().equals("NONE");
            Check.holds(field + " is private, or NONE",
                    none || Modifier.isPrivate(field.getModifiers()));
            Check.holds(field + " is a public constant, if it is NONE",
                    !none || field.getModifiers()
                            == (Modifier.PUBLIC | Modifier.STATIC | Modifier.FINAL));
        }
        Check.same("NONE", HallSights.NONE, -1);
        lookAtStatics(FACE);
        Constructor<?>[] constructors = FACE.getDeclaredConstructors();
        Check.same("constructors", constructors.length, 1);
        Check.same("the constructor's modifiers", constructors[0].getModifiers(), Modifier.PUBLIC);
        Check.same("the constructor's parameters", constructors[0].getParameterCount(), 0);
    }

    /** Rule 5: a static field is final, and of one of the types that constants may have. */
    private static void lookAtStatics(Class<?> type) {
        for (Field field : type.getDeclaredFields()) {
            if (Modifier.isStatic(field.getModifiers()) && !field.isSynthetic()) {
                Class<?> of = field.getType();
                Check.holds("rule 5: " + field + " is final", Modifier.isFinal(field.getModifiers()));
                Check.holds("rule 5: " + field + " is of a type that constants may have",
                        TYPES_OF_CONSTANTS.contains(of) || of.isEnum()
                                || of.isArray() && of.getComponentType().isEnum());
            }
        }
    }

    /** Each line of the document's face stands in the program, its parameters' names as well. */
    private static void lookAtWords(List<String> lines) throws IOException {
        String program = Texts.programInOneLine();
        for (String line : lines) {
            String due = line.contains("(") ? line.replaceAll(";$", " {") : line;
            Check.holds("the program has the words '" + due + "'", program.contains(due));
        }
    }

    /** Between "---- people" and the next such line stand just the calls that the document names. */
    private static void lookAtWordsAhead() throws IOException {
        String program = Texts.program();
        Matcher ahead = AHEAD.matcher(Texts.document());
        int parts = 0;
        while (ahead.find()) {
            parts++;
            String line = "// ---- " + ahead.group(2) + "\n";
            int from = program.indexOf(line);
            Check.holds("the program has the line '" + line.trim() + "'", from >= 0);
            if (from >= 0) {
                int next = program.indexOf("// ----", from + line.length());
                String part = program.substring(from, next < 0 ? program.length() : next);
                List<String> due = Arrays.asList(ahead.group(1).replaceAll("[`,]", "").split(" "));
                Check.holds(publicCallsIn(part) + " behind '" + line.trim() + "' are " + due,
                        publicCallsIn(part).equals(due));
            }
        }
        Check.same("parts of the interface", parts, 5);
    }

    private static List<String> publicCallsIn(String part) {
        List<String> names = new ArrayList<>();
        Matcher call = Pattern.compile("\n    public \\w+ (\\w+)\\(").matcher(part);
        while (call.find()) {
            names.add(call.group(1));
        }
        return names;
    }
}
