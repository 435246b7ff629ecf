import java.lang.reflect.Constructor;
import java.lang.reflect.Field;
import java.lang.reflect.Method;
import java.lang.reflect.Modifier;
import java.util.Set;
import java.util.TreeSet;

/** The public face: all that the document names, and no more that can be seen from outside. */
public final class FaceTest {
    private static final String PLACE = " throws IndexOutOfBoundsException";
    private static final String ARGUMENT = " throws IllegalArgumentException";

    private static final String[] FACE = {
        "int insert(int,int,int)" + ARGUMENT + ",IllegalStateException",
        "int remove(int)" + PLACE,
        "int setTarget(int,int)" + PLACE + ",IllegalArgumentException",
        "int setUse(int,int,int)" + PLACE + ",IllegalArgumentException",
        "int instructions()",
        "int kindOf(int)" + PLACE,
        "int targetOf(int)" + PLACE,
        "int blocks()",
        "int blockOf(int)" + PLACE,
        "int firstOf(int)" + PLACE,
        "boolean isReached(int)" + PLACE,
        "int edges()",
        "int edgeFrom(int)" + PLACE,
        "int edgeTo(int)" + PLACE,
        "boolean dominates(int,int)" + PLACE,
        "int parentOf(int)" + PLACE,
        "boolean comesBehind(int,int)" + PLACE,
        "boolean isBack(int)" + PLACE,
        "int loops()",
        "int loopSize(int)" + PLACE,
        "int depthOf(int)" + PLACE,
        "boolean isTame()",
        "int liveIn(int)" + PLACE,
        "int vain()",
        "int windings()",
        "int steps()",
        "int ruleOf(int)" + PLACE,
        "int nodeOf(int)" + PLACE,
        "int left()",
        "boolean isNeat()",
        "int endsIn(int)" + PLACE,
        "int layers()",
        "int layerOf(int)" + PLACE,
        "boolean isTurned(int)" + PLACE,
        "int points(int)" + PLACE,
        "int pointAt(int,int)" + PLACE,
        "int placeOf(int)" + PLACE,
        "int bends(int)" + PLACE,
        "int bendAt(int,int)" + PLACE,
        "int crossings()",
        "int sweep(int)" + ARGUMENT,
        "int wouldCross(int)" + ARGUMENT,
        "int swept()",
        "double meanLength()",
        "long digest()",
    };

    public static void main(String[] args) {
        Class<?> face = OrielChart.class;
        Check.same("the class", Modifier.toString(face.getModifiers()), "public final");
        constructors(face);
        methods(face);
        for (Field f : face.getDeclaredFields()) {
            Check.same("private: " + f, Modifier.isPrivate(f.getModifiers()), true);
            Check.same("final: " + f, Modifier.isFinal(f.getModifiers()), true);
        }
        for (Class<?> inside : face.getDeclaredClasses()) {
            Check.same("static: " + inside, Modifier.isStatic(inside.getModifiers()), true);
            Check.same("not public: " + inside, Modifier.isPublic(inside.getModifiers()), false);
        }
        Check.finish();
    }

    private static void constructors(Class<?> face) {
        Constructor<?>[] all = face.getDeclaredConstructors();
        Check.same("constructors", all.length, 1);
        Check.same("the constructor", all[0].toGenericString(), "public OrielChart()");
    }

    private static void methods(Class<?> face) {
        Set<String> due = new TreeSet<>();
        Set<String> names = new TreeSet<>();
        for (String told : FACE) {
            due.add("public " + told);
            names.add(told.substring(told.indexOf(' ') + 1, told.indexOf('(')));
        }
        Set<String> got = new TreeSet<>();
        for (Method m : face.getDeclaredMethods()) {
            if (!Modifier.isPrivate(m.getModifiers())) {
                got.add(m.toGenericString().replace("OrielChart.", "").replace("java.lang.", ""));
            } else {
                Check.same("no private namesake: " + m, names.contains(m.getName()), false);
            }
        }
        Check.same("methods", String.join("\n", got), String.join("\n", due));
        for (Class<?> inside : face.getDeclaredClasses()) {
            for (Method m : inside.getDeclaredMethods()) {
                boolean hidden = Modifier.isPrivate(m.getModifiers());
                Check.same("no private namesake: " + m, hidden && names.contains(m.getName()), false);
            }
        }
    }
}
