import java.lang.reflect.Constructor;
import java.lang.reflect.Field;
import java.lang.reflect.Method;
import java.lang.reflect.Modifier;
import java.util.Set;
import java.util.TreeSet;

/** The public face is the document's, and nothing else of the class can be seen. */
public final class FaceTest {
    private static final Set<String> FACE = new TreeSet<>(Set.of(
            "public boolean RoundCompiler.write(long)",
            "public void RoundCompiler.wipe()",
            "public int RoundCompiler.compile() throws java.lang.IllegalArgumentException",
            "public int RoundCompiler.fault()",
            "public int RoundCompiler.work()",
            "public int RoundCompiler.run()"
                    + " throws java.lang.IllegalStateException,java.lang.IndexOutOfBoundsException",
            "public int RoundCompiler.value(int) throws java.lang.IndexOutOfBoundsException",
            "public void RoundCompiler.poke(int,int) throws java.lang.IndexOutOfBoundsException",
            "public int RoundCompiler.peek(int) throws java.lang.IndexOutOfBoundsException",
            "public void RoundCompiler.fill(int,int,int) throws java.lang.IllegalArgumentException",
            "public int RoundCompiler.mixed()"));

    public static void main(String[] args) {
        Class<RoundCompiler> type = RoundCompiler.class;
        Check.due("public final", type.getModifiers(), Modifier.PUBLIC | Modifier.FINAL);
        methodsAreTheFace(type);
        constructorIsTheFace(type);
        for (Field field : type.getDeclaredFields()) {
            Check.due(field + " is private", Modifier.isPrivate(field.getModifiers()), true);
        }
        for (Class<?> inside : type.getDeclaredClasses()) {
            Check.due(inside + " is static", Modifier.isStatic(inside.getModifiers()), true);
        }
        Check.end();
    }

    private static void methodsAreTheFace(Class<RoundCompiler> type) {
        Set<String> visible = new TreeSet<>();
        for (Method method : type.getDeclaredMethods()) {
            if (!Modifier.isPrivate(method.getModifiers())) {
                visible.add(method.toString());
            }
        }
        if (!visible.equals(FACE)) {
            Check.report("visible are " + visible + ", due are " + FACE);
        }
    }

    private static void constructorIsTheFace(Class<RoundCompiler> type) {
        Constructor<?>[] constructors = type.getDeclaredConstructors();
        Check.due("constructors", constructors.length, 1);
        if (!constructors[0].toString().equals("public RoundCompiler()")) {
            Check.report("the constructor is " + constructors[0]);
        }
    }
}
