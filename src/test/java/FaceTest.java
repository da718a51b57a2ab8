import java.lang.reflect.Constructor;
import java.lang.reflect.Field;
import java.lang.reflect.Method;
import java.lang.reflect.Modifier;
import java.util.Set;
import java.util.TreeSet;

/** The public face, its constants, and promise 1: a new object. */
public final class FaceTest {
    private static final Check CHECK = new Check("FaceTest");
    private static final String ARGUMENT_STATE =
            " throws IllegalArgumentException,IllegalStateException";
    private static final String INDEX_STATE =
            " throws IndexOutOfBoundsException,IllegalStateException";

    public static void main(String[] args) {
        theFaceIsTheDocuments();
        aNewObjectIsEmpty();
        objectsAreApart();
        CHECK.end();
    }

    private static void theFaceIsTheDocuments() {
        Set<String> want = new TreeSet<>(Set.of(
                "static final int NONE", "LockRuns()",
                "int chamber(int,int,int)" + ARGUMENT_STATE,
                "int ship(int,int,int,int,int)" + ARGUMENT_STATE,
                "boolean closed(int,int,int)", "boolean rule(int,int)", "int plan()",
                "boolean fits(int,int) throws IllegalArgumentException",
                "int of(int,int)" + INDEX_STATE, "int run(int,int,int)" + INDEX_STATE,
                "int late(int,int) throws IndexOutOfBoundsException"
                        + ",IllegalArgumentException,IllegalStateException",
                "int home(int) throws IndexOutOfBoundsException",
                "int rate(int,int) throws IllegalArgumentException,ArithmeticException",
                "int count(int)"));
        Set<String> got = new TreeSet<>();
        for (Field f : LockRuns.class.getDeclaredFields()) {
            if (!Modifier.isPrivate(f.getModifiers())) {
                got.add(Modifier.toString(f.getModifiers()).replace("public ", "") + " "
                        + f.getType() + " " + f.getName());
            }
        }
        for (Constructor<?> c : LockRuns.class.getDeclaredConstructors()) {
            got.add("LockRuns(" + types(c.getParameterTypes()) + ")"
                    + thrown(c.getExceptionTypes()));
        }
        for (Method m : LockRuns.class.getDeclaredMethods()) {
            if (!Modifier.isPrivate(m.getModifiers())) {
                got.add(m.getReturnType() + " " + m.getName()
                        + "(" + types(m.getParameterTypes()) + ")"
                        + thrown(m.getExceptionTypes()));
            }
        }
        CHECK.due("the face", want, got);
        CHECK.due("the class's modifiers", "public final",
                Modifier.toString(LockRuns.class.getModifiers()));
        CHECK.due("NONE", -1, LockRuns.NONE);
    }

    private static String types(Class<?>[] types) {
        StringBuilder all = new StringBuilder();
        for (Class<?> type : types) {
            all.append(all.length() == 0 ? "" : ",").append(type.getSimpleName());
        }
        return all.toString();
    }

    private static String thrown(Class<?>[] types) {
        return types.length == 0 ? "" : " throws " + types(types);
    }

    private static void aNewObjectIsEmpty() {
        LockRuns lock = new LockRuns();
        int[] want = {0, 0, 0, 0, 0, 3, -1, -1};
        for (int what = 0; what < want.length; what++) {
            CHECK.due("count(" + what + ") of a new object", want[what], lock.count(what));
        }
        CHECK.refused("home(0)", Check.INDEX, () -> lock.home(0));
        CHECK.refused("of(0, 0)", Check.INDEX, () -> lock.of(0, 0));
        CHECK.refused("run(0, 0, 0)", Check.INDEX, () -> lock.run(0, 0, 0));
        CHECK.refused("late(0, 0)", Check.INDEX, () -> lock.late(0, 0));
        CHECK.refused("fits(0, 0)", Check.ARGUMENT, () -> lock.fits(0, 0) ? 1 : 0);
        CHECK.due("closed(0, 0, 1)", false, lock.closed(0, 0, 1));
        CHECK.due("plan() of nothing", 0, lock.plan());
        CHECK.due("count(3) behind it", 1, lock.count(3));
        CHECK.due("count(6) behind it", -1, lock.count(6));
    }

    private static void objectsAreApart() {
        LockRuns one = new LockRuns();
        LockRuns other = new LockRuns();
        String before = Check.state(other);
        one.chamber(8, 3, 10);
        one.ship(4, 1, 0, 0, 2);
        one.closed(0, 0, 5);
        one.rule(1, 1);
        one.plan();
        CHECK.due("another object's state", before, Check.state(other));
    }
}
