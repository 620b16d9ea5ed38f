import java.lang.reflect.Constructor;
import java.lang.reflect.Field;
import java.lang.reflect.Method;
import java.lang.reflect.Modifier;
import java.util.Arrays;
import java.util.List;
import java.util.Set;
import java.util.TreeSet;
import java.util.stream.Collectors;

/** The class shows the document's face and nothing else. */
public final class FaceTest {
    private static final List<String> METHODS = List.of(
            "int append(int,int,int,int,int) IllegalStateException",
            "int setRule(int) IllegalArgumentException",
            "int errorPosition()",
            "void setLimits(int,int,int) IllegalArgumentException",
            "boolean put(long,int) IllegalArgumentException,IllegalStateException",
            "int get(long) IllegalArgumentException,NoSuchElementException",
            "int add(long,int) IllegalArgumentException,ArithmeticException,IllegalStateException",
            "int remove(long) IllegalArgumentException,NoSuchElementException",
            "int size()",
            "int frequency(long) IllegalArgumentException",
            "long lower(long) IllegalArgumentException",
            "long ceiling(long) IllegalArgumentException",
            "long keyAt(int) IndexOutOfBoundsException",
            "int prefixCount(long) IllegalArgumentException",
            "long longestPrefix(long) IllegalArgumentException",
            "long mostFrequent(int) IndexOutOfBoundsException",
            "long sum(long,long) IllegalArgumentException",
            "int open(int,long) IndexOutOfBoundsException,IllegalArgumentException",
            "long next(int) IndexOutOfBoundsException,IllegalStateException,NoSuchElementException",
            "long previous(int) IndexOutOfBoundsException,IllegalStateException,NoSuchElementException",
            "int seek(int,long) IndexOutOfBoundsException,IllegalArgumentException,IllegalStateException",
            "int removeAt(int) IndexOutOfBoundsException,IllegalStateException",
            "boolean close(int) IndexOutOfBoundsException",
            "int kind(long) IllegalArgumentException",
            "int container(long,int) IllegalArgumentException,NoSuchElementException",
            "long recordAt(long,int) "
                    + "IllegalArgumentException,NoSuchElementException,IndexOutOfBoundsException",
            "int cost(long) IllegalArgumentException",
            "long meanCost(boolean)",
            "long counter(int) IllegalArgumentException",
            "void save(int) IndexOutOfBoundsException",
            "int restore(int) IndexOutOfBoundsException,IllegalStateException");

    public static void main(String[] args) {
        Check.due(new TreeSet<>(METHODS), FaceTest::methods, "methods");
        Check.due(Set.of("NONE", "SYNTAX_ERROR", "VALUE_ERROR", "TOO_DEEP"), FaceTest::fields, "fields");
        Check.due("[public BurstTrie()]", FaceTest::constructors, "constructors");
        Check.due(true, () -> Modifier.isFinal(BurstTrie.class.getModifiers()), "final");
        Check.due(true, FaceTest::inside, "classes inside");
        Check.due(-1, () -> BurstTrie.NONE, "NONE");
        Check.due(-2, () -> BurstTrie.SYNTAX_ERROR, "SYNTAX_ERROR");
        Check.due(-3, () -> BurstTrie.VALUE_ERROR, "VALUE_ERROR");
        Check.due(-4, () -> BurstTrie.TOO_DEEP, "TOO_DEEP");
        Check.finish();
    }

    private static String names(Class<?>[] types) {
        return Arrays.stream(types).map(Class::getSimpleName).collect(Collectors.joining(","));
    }

    private static Set<String> methods() {
        Set<String> face = new TreeSet<>();
        Set<String> names = new TreeSet<>();
        for (Method m : BurstTrie.class.getDeclaredMethods()) {
            if (!Modifier.isPrivate(m.getModifiers())) {
                face.add((m.getReturnType().getSimpleName() + " " + m.getName() + "("
                        + names(m.getParameterTypes()) + ") " + names(m.getExceptionTypes())).trim());
                names.add(m.getName());
            }
        }
        for (Class<?> inside : BurstTrie.class.getDeclaredClasses()) {
            for (Method m : inside.getDeclaredMethods()) {
                if (Modifier.isPrivate(m.getModifiers()) && names.contains(m.getName())) {
                    face.add("private " + m.getName());
                }
            }
        }
        return face;
    }

    private static Set<String> fields() {
        Set<String> face = new TreeSet<>();
        for (Field f : BurstTrie.class.getDeclaredFields()) {
            int is = f.getModifiers();
            if (!Modifier.isPrivate(is)) {
                face.add(f.getName() + (Modifier.isPublic(is) && Modifier.isStatic(is)
                        && Modifier.isFinal(is) && f.getType() == int.class ? "" : " is not a constant"));
            }
        }
        return face;
    }

    private static String constructors() {
        Constructor<?>[] all = BurstTrie.class.getDeclaredConstructors();
        return Arrays.toString(all);
    }

    private static boolean inside() {
        return Arrays.stream(BurstTrie.class.getDeclaredClasses()).allMatch(c ->
                Modifier.isStatic(c.getModifiers())
                        && !Modifier.isPublic(c.getModifiers()) && !Modifier.isProtected(c.getModifiers()));
    }
}
