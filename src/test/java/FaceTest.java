import java.lang.reflect.Constructor;
import java.lang.reflect.Field;
import java.lang.reflect.Member;
import java.lang.reflect.Method;
import java.lang.reflect.Modifier;
import java.util.Set;
import java.util.TreeSet;

/**
 * The class shows what "The public face" of the document lists and nothing else, and hides the rest
 * as rule 1 of LANGUAGE.md asks.
 */
public final class FaceTest {
    private static final String[] FACE = {
        "void set(int, int) I",
        "void apply(int, int, int, int) IN",
        "void choose(int, int, int, int) IN",
        "void restrict(int, int, int, boolean) IN",
        "void compose(int, int, int, int) IN",
        "void quantify(int, int, int, boolean) IN",
        "int type(long, int) I",
        "int read(int) I",
        "boolean release(int) I",
        "boolean equal(int, int) IN",
        "boolean value(int, int) IN",
        "int count(int) IN",
        "int least(int) IN",
        "int support(int) IN",
        "int size(int) IN",
        "int shared() ",
        "int width(int) I",
        "int variable(int) I",
        "int swap(int) I",
        "int sift(int) I"
    };

    public static void main(String[] args) {
        Set<String> due = new TreeSet<>(Set.of(FACE));
        due.add("public final class");
        due.add("public constructor of 0");
        Set<String> got = shown();
        if (!got.equals(due)) {
            System.out.println("the face is " + got + ", due is " + due);
            System.exit(1);
        }
        Set<String> wrong = wronglyHidden();
        if (!wrong.isEmpty()) {
            System.out.println("against rule 1: " + wrong);
            System.exit(1);
        }
        System.out.println("the face is as due");
    }

    private static Set<String> shown() {
        Set<String> got = new TreeSet<>();
        if (SiftedGraphs.class.getModifiers() == (Modifier.PUBLIC | Modifier.FINAL)) {
            got.add("public final class");
        }
        for (Constructor<?> c : SiftedGraphs.class.getDeclaredConstructors()) {
            got.add((Modifier.isPublic(c.getModifiers()) ? "public" : "other") + " constructor of " + c.getParameterCount());
        }
        for (Method m : SiftedGraphs.class.getDeclaredMethods()) {
            if (isShown(m)) {
                got.add(told(m));
            }
        }
        for (Field f : SiftedGraphs.class.getDeclaredFields()) {
            if (isShown(f)) {
                got.add(f.toString());
            }
        }
        return got;
    }

    private static Set<String> wronglyHidden() {
        Set<String> publicNames = new TreeSet<>();
        for (Method m : SiftedGraphs.class.getMethods()) {
            publicNames.add(m.getName());
        }
        Set<String> wrong = new TreeSet<>();
        addPrivateNamesakes(SiftedGraphs.class, publicNames, wrong);
        for (Class<?> inside : SiftedGraphs.class.getDeclaredClasses()) {
            addPrivateNamesakes(inside, publicNames, wrong);
            int modifiers = inside.getModifiers();
            if (!Modifier.isStatic(modifiers) || Modifier.isPublic(modifiers) || Modifier.isProtected(modifiers)) {
                wrong.add(inside.toString());
            }
        }
        return wrong;
    }

    private static void addPrivateNamesakes(Class<?> owner, Set<String> publicNames, Set<String> wrong) {
        for (Method m : owner.getDeclaredMethods()) {
            if (Modifier.isPrivate(m.getModifiers()) && publicNames.contains(m.getName())) {
                wrong.add(m.toString());
            }
        }
    }

    private static boolean isShown(Member m) {
        return !Modifier.isPrivate(m.getModifiers()) && !m.isSynthetic();
    }

    private static String told(Method m) {
        StringBuilder s = new StringBuilder();
        s.append(m.getModifiers() == Modifier.PUBLIC ? "" : Modifier.toString(m.getModifiers()) + " ");
        s.append(m.getReturnType()).append(' ').append(m.getName()).append('(');
        for (int i = 0; i < m.getParameterCount(); i++) {
            s.append(i == 0 ? "" : ", ").append(m.getParameterTypes()[i]);
        }
        s.append(") ");
        for (Class<?> e : m.getExceptionTypes()) {
            s.append(e.getSimpleName().charAt(0));
        }
        return s.toString();
    }
}
