import java.lang.reflect.Constructor;
import java.lang.reflect.Field;
import java.lang.reflect.Method;
import java.lang.reflect.Modifier;
import java.util.ArrayList;
import java.util.Arrays;
import java.util.List;
import java.util.TreeSet;

/** The class has the document's face and no other, as LANGUAGE.md's rules 1, 2 and 11 ask. */
public final class FaceTests {
    private static final String INDEX = "IndexOutOfBoundsException";
    private static final String ARGUMENT = "IllegalArgumentException";
    private static final String STATE = "IllegalStateException";

    private static final String[] FACE = {
        "int relation(int) " + ARGUMENT + " " + STATE,
        "int fact(int,int,int,int) " + INDEX + " " + ARGUMENT + " " + STATE,
        "int drop(int,int) " + INDEX,
        "int relations()",
        "int facts(int) " + INDEX,
        "int factAt(int,int,int) " + INDEX + " " + ARGUMENT,
        "int atom(int,int,int,int) " + INDEX + " " + ARGUMENT + " " + STATE,
        "int same(int,int) " + ARGUMENT + " " + STATE,
        "int not(int) " + INDEX + " " + STATE,
        "int join(boolean,int,int) " + INDEX + " " + STATE,
        "int bind(boolean,int,int) " + INDEX + " " + ARGUMENT + " " + STATE,
        "int formulas()",
        "int ofFormula(int,int) " + INDEX + " " + ARGUMENT,
        "boolean isSafe(int) " + INDEX,
        "int loose(int) " + INDEX,
        "int answers(int) " + INDEX + " " + STATE,
        "int answer(int,int,int) " + INDEX + " " + STATE + " " + ARGUMENT,
        "int rule(int,int,int,int) " + ARGUMENT + " " + STATE,
        "int add(int,int,int,int,int) " + INDEX + " " + ARGUMENT + " " + STATE,
        "int rules()",
        "int ofRule(int,int) " + INDEX + " " + ARGUMENT,
        "int tells(int) " + INDEX + " " + STATE,
        "int row(int,int,int) " + INDEX + " " + STATE + " " + ARGUMENT,
        "int order(int,int,int) " + INDEX + " " + ARGUMENT,
        "boolean isWithin(int,int) " + INDEX,
        "int image(int,int,int) " + INDEX + " " + ARGUMENT,
        "int shorten(int) " + INDEX,
        "int translate(int) " + INDEX + " " + STATE,
        "int answersWith(int,int,int,int,int) " + INDEX + " " + ARGUMENT + " " + STATE,
        "double share(int) " + INDEX + " " + STATE,
        "long digest()",
    };

    public static void main(String[] args) {
        Checks checks = new Checks();
        TreeSet<String> due = new TreeSet<>(Arrays.asList(FACE));
        TreeSet<String> found = new TreeSet<>();
        TreeSet<String> publicNames = new TreeSet<>();
        for (Method m : Thimble.class.getDeclaredMethods()) {
            if (Modifier.isPublic(m.getModifiers())) {
                found.add(told(m));
                publicNames.add(m.getName());
            }
        }
        checks.due("the public methods", due, () -> found);
        checks.due("methods neither public nor private, or private with a public name", "[]",
                () -> strangers(publicNames));
        for (Constructor<?> c : Thimble.class.getDeclaredConstructors()) {
            checks.due("the constructor", "public Thimble()", c::toString);
        }
        for (Field f : Thimble.class.getDeclaredFields()) {
            checks.due("private " + f.getName(), true, () -> Modifier.isPrivate(f.getModifiers()));
            checks.due("static means final: " + f.getName(), true,
                    () -> !Modifier.isStatic(f.getModifiers()) || Modifier.isFinal(f.getModifiers()));
        }
        checks.due("at most twelve classes", true, () -> Thimble.class.getDeclaredClasses().length < 12);
        for (Class<?> inner : Thimble.class.getDeclaredClasses()) {
            checks.due("private and static: " + inner.getName(), true,
                    () -> Modifier.isPrivate(inner.getModifiers()) && Modifier.isStatic(inner.getModifiers()));
        }
        checks.end("FaceTests");
    }

    private static String told(Method m) {
        List<String> all = new ArrayList<>();
        for (Class<?> type : m.getParameterTypes()) {
            all.add(type.getSimpleName());
        }
        StringBuilder text = new StringBuilder(m.getReturnType().getSimpleName());
        text.append(' ').append(m.getName()).append('(').append(String.join(",", all)).append(')');
        for (Class<?> thrown : m.getExceptionTypes()) {
            text.append(' ').append(thrown.getSimpleName());
        }
        return text.toString();
    }

    private static List<String> strangers(TreeSet<String> publicNames) {
        List<String> all = new ArrayList<>();
        for (Method m : Thimble.class.getDeclaredMethods()) {
            boolean isPublic = Modifier.isPublic(m.getModifiers());
            boolean isPrivate = Modifier.isPrivate(m.getModifiers());
            if (!isPublic && !isPrivate || isPrivate && publicNames.contains(m.getName())) {
                all.add(m.getName());
            }
        }
        return all;
    }
}
