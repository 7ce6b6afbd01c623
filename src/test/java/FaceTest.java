import java.lang.reflect.Constructor;
import java.lang.reflect.Field;
import java.lang.reflect.Method;
import java.lang.reflect.Modifier;
import java.util.Arrays;
import java.util.Set;
import java.util.TreeSet;

/** The class has the document's face, and nothing else that is not private. */
final class FaceTest {
    private static final String[] FACE = {
        "int addRow(int,int,int) IllegalArgumentException,IllegalStateException",
        "int removeRow(int) IndexOutOfBoundsException",
        "int lift(int,int) IndexOutOfBoundsException,IllegalArgumentException",
        "int addColumn(int,int,int) IllegalArgumentException,IllegalStateException",
        "int removeColumn(int) IndexOutOfBoundsException",
        "int set(int,int) IndexOutOfBoundsException,IllegalArgumentException",
        "int take(int,int) IndexOutOfBoundsException,IllegalStateException",
        "int leave(int,int) IndexOutOfBoundsException,IllegalStateException",
        "int seatParty(int) IllegalArgumentException,IllegalStateException",
        "int clear() ",
        "int liftAll() ",
        "int append(int) IllegalArgumentException,IllegalStateException",
        "int clearBuffer() ",
        "int firstError() ",
        "int addAll() IllegalArgumentException",
        "int undo() IllegalStateException",
        "int row(int,int) IndexOutOfBoundsException,IllegalArgumentException",
        "int seat(int,int,int) IndexOutOfBoundsException,IllegalArgumentException",
        "int column(int,int) IndexOutOfBoundsException,IllegalArgumentException",
        "int best(int) IllegalArgumentException",
        "int whoBlocks(int,int) IndexOutOfBoundsException",
        "int count(int) IllegalArgumentException",
        "int setting(int) IndexOutOfBoundsException",
        "int leastHeight(int) IndexOutOfBoundsException",
        "int ifLifted(int,int) IndexOutOfBoundsException,IllegalArgumentException",
        "int ifTaken(int,int) IndexOutOfBoundsException",
        "int worstColumn() ",
        "double seeingShare() ",
        "long digest() ",
    };

    private FaceTest() {
    }

    public static void main(String[] args) {
        Class<HallSights> face = HallSights.class;
        Check.holds("the class is public and final",
                face.getModifiers() == (Modifier.PUBLIC | Modifier.FINAL));
        Check.holds("it has no package", face.getPackageName().isEmpty());
        Check.holds("it extends nothing", face.getSuperclass() == Object.class);
        Check.same("interfaces", face.getInterfaces().length, 0);
        Check.same("NONE", HallSights.NONE, -1);
        lookAtMethods(face);
        lookAtFieldsAndConstructors(face);
        for (Class<?> inner : face.getDeclaredClasses()) {
            Check.holds(inner + " is private and static",
                    Modifier.isPrivate(inner.getModifiers())
                            && Modifier.isStatic(inner.getModifiers()));
            lookAtStatics(inner);
        }
        Check.end("FaceTest");
    }

    private static void lookAtMethods(Class<?> face) {
        Set<String> due = new TreeSet<>(Arrays.asList(FACE));
        Set<String> publicNames = new TreeSet<>();
        for (Method method : face.getDeclaredMethods()) {
            if (!Modifier.isPrivate(method.getModifiers())) {
                Check.holds(method + " is in the document", due.remove(told(method)));
                Check.same(method + ": modifiers", method.getModifiers(), Modifier.PUBLIC);
                publicNames.add(method.getName());
            }
        }
        for (String missing : due) {
            Check.say(missing + " is missing");
        }
        for (Method method : face.getDeclaredMethods()) {
            if (Modifier.isPrivate(method.getModifiers())) {
                Check.holds(method + " does not bear a public name",
                        !publicNames.contains(method.getName()));
            }
        }
    }

    private static String told(Method method) {
        return method.getReturnType().getSimpleName() + " " + method.getName()
                + "(" + names(method.getParameterTypes()) + ") "
                + names(method.getExceptionTypes());
    }

    private static String names(Class<?>[] types) {
        StringBuilder all = new StringBuilder();
        for (Class<?> type : types) {
            all.append(all.length() == 0 ? "" : ",").append(type.getSimpleName());
        }
        return all.toString();
    }

    private static void lookAtFieldsAndConstructors(Class<?> face) {
        for (Field field : face.getDeclaredFields()) {
            Check.holds(field + " is private, or NONE",
                    Modifier.isPrivate(field.getModifiers()) || field.getName().equals("NONE"));
        }
        lookAtStatics(face);
        Constructor<?>[] constructors = face.getDeclaredConstructors();
        Check.same("constructors", constructors.length, 1);
        Check.same("the constructor's modifiers", constructors[0].getModifiers(), Modifier.PUBLIC);
        Check.same("the constructor's parameters", constructors[0].getParameterCount(), 0);
    }

    private static void lookAtStatics(Class<?> type) {
        for (Field field : type.getDeclaredFields()) {
            int modifiers = field.getModifiers();
            Check.holds(field + " is final, if it is static",
                    !Modifier.isStatic(modifiers) || Modifier.isFinal(modifiers));
        }
    }
}
