import java.lang.reflect.Constructor;
import java.lang.reflect.Field;
import java.lang.reflect.Method;
import java.lang.reflect.Modifier;
import java.util.Arrays;
import java.util.Set;
import java.util.TreeSet;

/** The class shows the document's face and nothing beside it. */
public final class FaceTest {
    private static final String ARGUMENT = " throws java.lang.IllegalArgumentException";
    private static final String INDEX = " throws java.lang.IndexOutOfBoundsException";

    private static final Set<String> FACE = new TreeSet<>(Arrays.asList(
            "public static final int WeightFile.NONE",
            "public WeightFile()",
            "public void WeightFile.take(int,int)" + ARGUMENT,
            "public void WeightFile.put(int,int,int,long)" + INDEX + ",java.lang.IllegalArgumentException",
            "public int WeightFile.limb(int,int,int)" + INDEX,
            "public int WeightFile.count(int)" + ARGUMENT,
            "public int WeightFile.save()",
            "public int WeightFile.printed(int)" + INDEX,
            "public int WeightFile.feed(long) throws java.lang.IllegalStateException",
            "public void WeightFile.end(int)" + ARGUMENT,
            "public int WeightFile.copy()",
            "public int WeightFile.poke(int,int)" + INDEX,
            "public int WeightFile.restore()" + ARGUMENT,
            "public int WeightFile.place()",
            "public int WeightFile.told(int)"));

    public static void main(String[] args) {
        Due.same("the class", Modifier.toString(WeightFile.class.getModifiers()), "public final");
        Due.same("the class above it", WeightFile.class.getSuperclass(), Object.class);
        Due.same("its interfaces", WeightFile.class.getInterfaces().length, 0);
        Due.same("its package", WeightFile.class.getPackageName(), "");
        Due.same("public classes inside", WeightFile.class.getClasses().length, 0);
        Due.same("NONE", WeightFile.NONE, -1);
        Set<String> shown = new TreeSet<>();
        Set<String> shownNames = new TreeSet<>();
        Set<String> hiddenNames = new TreeSet<>();
        for (Constructor<?> c : WeightFile.class.getDeclaredConstructors()) {
            shown.add(c.toString());
        }
        for (Field f : WeightFile.class.getDeclaredFields()) {
            if (!Modifier.isPrivate(f.getModifiers())) {
                shown.add(f.toString());
            } else if (Modifier.isStatic(f.getModifiers())) {
                Due.same("static " + f.getName() + " is final", Modifier.isFinal(f.getModifiers()), true);
            }
        }
        for (Method m : WeightFile.class.getDeclaredMethods()) {
            if (Modifier.isPrivate(m.getModifiers())) {
                hiddenNames.add(m.getName());
            } else {
                shown.add(m.toString());
                shownNames.add(m.getName());
            }
        }
        Due.same("the face", shown, FACE);
        hiddenNames.retainAll(shownNames);
        Due.same("private methods with a public name", hiddenNames.toString(), "[]");
        Due.finish();
    }
}
