import java.lang.reflect.Constructor;
import java.lang.reflect.Field;
import java.lang.reflect.Method;
import java.lang.reflect.Modifier;
import java.util.Set;
import java.util.TreeSet;

/** The public face: just what the document tells, no more and no less. */
public final class FaceTest {
    private static final String[] METHODS = {"int dorms 4", "int ofBoy 3", "int order 2", "int stands 2", "int lands 3",
        "long odds 3", "long ahead 3", "long mean 3", "long seen 4", "int best 2", "int safe 2", "int likely 4",
        "long without 4", "int blows 4", "long chance 5", "long split 4", "int send 2", "int sheet 3", "int lose 1",
        "int put 3", "long cell 3", "int copy 5", "int tell 2", "int name 2", "int as 3", "int trace 0", "int fault 0",
        "int many 1"};

    public static void main(String[] args) {
        Due d = new Due("face");
        Set<String> due = new TreeSet<>(Set.of(METHODS));
        Set<String> publicNames = new TreeSet<>();
        for (Method m : PillowRows.class.getDeclaredMethods()) {
            if (Modifier.isPublic(m.getModifiers())) {
                publicNames.add(m.getName());
                d.holds("told: " + m, due.remove(m.getReturnType() + " " + m.getName() + " " + m.getParameterCount()));
                for (Class<?> type : m.getParameterTypes()) {
                    d.holds("an int: " + m, type == int.class);
                }
                d.holds("of an object: " + m, !Modifier.isStatic(m.getModifiers()));
            } else {
                d.holds("private: " + m, Modifier.isPrivate(m.getModifiers()));
            }
        }
        d.due("missing: " + due, due.size(), 0);
        privateNames(d, publicNames);
        fields(d);
        Constructor<?>[] made = PillowRows.class.getDeclaredConstructors();
        d.due("constructors", made.length, 1);
        d.holds("public constructor of nothing", Modifier.isPublic(made[0].getModifiers()) && made[0].getParameterCount() == 0);
        int kind = PillowRows.class.getModifiers();
        d.holds("public final class", Modifier.isPublic(kind) && Modifier.isFinal(kind));
        d.end();
    }

    private static void privateNames(Due d, Set<String> publicNames) {
        for (Class<?> inside : PillowRows.class.getDeclaredClasses()) {
            d.holds("static: " + inside, Modifier.isStatic(inside.getModifiers()));
            for (Method m : inside.getDeclaredMethods()) {
                d.holds("a name of its own: " + m, !publicNames.contains(m.getName()));
            }
        }
        d.holds("at most twelve classes", PillowRows.class.getDeclaredClasses().length < 12);
        fewFields(d, PillowRows.class);
        for (Class<?> inside : PillowRows.class.getDeclaredClasses()) {
            fewFields(d, inside);
        }
    }

    private static void fewFields(Due d, Class<?> of) {
        int own = 0;
        for (Field f : of.getDeclaredFields()) {
            own += Modifier.isStatic(f.getModifiers()) ? 0 : 1;
        }
        d.holds("at most twenty fields: " + of, own <= 20);
    }

    private static void fields(Due d) {
        int told = 0;
        for (Field f : PillowRows.class.getDeclaredFields()) {
            int kind = f.getModifiers();
            if (Modifier.isPublic(kind)) {
                told++;
                Class<?> type = f.getName().equals("LOST") ? long.class : int.class;
                d.holds("constant: " + f, Modifier.isStatic(kind) && Modifier.isFinal(kind) && f.getType() == type);
            } else {
                d.holds("private: " + f, Modifier.isPrivate(kind));
            }
        }
        d.due("public constants", told, 4);
    }
}
