import java.lang.reflect.Constructor;
import java.lang.reflect.Field;
import java.lang.reflect.Method;
import java.lang.reflect.Modifier;
import java.util.ArrayList;
import java.util.List;
import java.util.Set;
import java.util.TreeSet;

/** The public face is the document's, word for word, and there is nothing beside it. */
public final class FaceTest {
    private static final String OUTSIDE = "java.lang.IndexOutOfBoundsException";
    private static final String ARGUMENT = "java.lang.IllegalArgumentException";
    private static final String STATE = "java.lang.IllegalStateException";
    private static final String NO_SUCH = "java.util.NoSuchElementException";

    public static void main(String[] args) {
        Checks.holds("public and final", Modifier.toString(LessonWeave.class.getModifiers()).equals("public final"));
        Checks.holds("no package", LessonWeave.class.getPackageName().isEmpty());
        Checks.holds("no superclass but Object", LessonWeave.class.getSuperclass() == Object.class);
        Checks.equal("interfaces", LessonWeave.class.getInterfaces().length, 0);
        Checks.equal("NONE", LessonWeave.NONE, -1);
        Checks.equal("REVISIT", LessonWeave.REVISIT, 100);
        same("constructors", constructors(), Set.of("public LessonWeave()"));
        same("methods", methods(), Set.of(
            method("aim", 4, ARGUMENT, STATE),
            method("need", 2, OUTSIDE, ARGUMENT, STATE),
            method("free", 2, OUTSIDE, NO_SUCH),
            method("revisits", 3, OUTSIDE, ARGUMENT),
            method("aims", 0),
            method("allNeeds", 1, OUTSIDE),
            method("ordered", 1, OUTSIDE),
            method("lose", 1, OUTSIDE, STATE),
            method("on", 1, OUTSIDE),
            method("lessonDay", 2, OUTSIDE),
            method("revisitDay", 2, OUTSIDE),
            method("laid", 0),
            method("late", 0),
            method("lastDay", 0),
            method("worthwhile", 1, ARGUMENT),
            method("bestNet", 1, ARGUMENT),
            method("closedSets", 0)));
        same("constants", openFields(), Set.of("public static final int NONE", "public static final int REVISIT"));
        innerClasses();
        Checks.end();
    }

    private static void same(String what, Set<String> got, Set<String> want) {
        Set<String> missing = new TreeSet<>(want);
        missing.removeAll(got);
        Set<String> added = new TreeSet<>(got);
        added.removeAll(want);
        Checks.holds(what + ", missing " + missing + ", added " + added, missing.isEmpty() && added.isEmpty());
    }

    private static String method(String name, int numbers, String... thrown) {
        List<String> parameters = new ArrayList<>();
        for (int k = 0; k < numbers; k++) {
            parameters.add("int");
        }
        String head = "public int LessonWeave." + name + "(" + String.join(",", parameters) + ")";
        return thrown.length == 0 ? head : head + " throws " + String.join(",", thrown);
    }

    private static Set<String> constructors() {
        Set<String> found = new TreeSet<>();
        for (Constructor<?> one : LessonWeave.class.getDeclaredConstructors()) {
            found.add(one.toString());
        }
        return found;
    }

    private static Set<String> methods() {
        Set<String> found = new TreeSet<>();
        Set<String> open = new TreeSet<>();
        for (Method one : LessonWeave.class.getDeclaredMethods()) {
            if (!Modifier.isPrivate(one.getModifiers())) {
                found.add(one.toString());
                open.add(one.getName());
            }
        }
        for (Method one : LessonWeave.class.getDeclaredMethods()) {
            Checks.holds("no private method has a public one's name: " + one,
                !Modifier.isPrivate(one.getModifiers()) || !open.contains(one.getName()));
        }
        return found;
    }

    private static Set<String> openFields() {
        Set<String> found = new TreeSet<>();
        for (Field one : LessonWeave.class.getDeclaredFields()) {
            int how = one.getModifiers();
            if (!Modifier.isPrivate(how)) {
                found.add(Modifier.toString(how) + " " + one.getType() + " " + one.getName());
            }
            Checks.holds("static only if final: " + one, !Modifier.isStatic(how) || Modifier.isFinal(how));
        }
        return found;
    }

    private static void innerClasses() {
        for (Class<?> one : LessonWeave.class.getDeclaredClasses()) {
            int how = one.getModifiers();
            Checks.holds("hidden and static: " + one,
                Modifier.isStatic(how) && !Modifier.isPublic(how) && !Modifier.isProtected(how));
            Checks.holds("some twenty fields: " + one, one.getDeclaredFields().length <= 20);
        }
    }
}
