import java.lang.reflect.Field;
import java.lang.reflect.Method;
import java.lang.reflect.Modifier;
import java.util.Set;
import java.util.TreeSet;

/** The class shows what the document's face has, and nothing else. */
public final class FaceTest {
    public static void main(String[] args) {
        Set<String> want = new TreeSet<>(Set.of(
            "public static final int NONE",
            "public boolean map(int, int, int, int)",
            "public boolean unmap(int, int)",
            "public int page(int, int)",
            "public boolean poke(int, int, int)",
            "public int peek(int, int)",
            "public boolean set(int, int, int)",
            "public int register(int, int)",
            "public int trap(int, int)",
            "public int call(int, int, int, int, int)",
            "public int traps()",
            "public int count(int)",
            "public int descriptors(int)"));
        Set<String> publicNames = new TreeSet<>();
        Set<String> got = new TreeSet<>();
        for (Field f : TrapGate.class.getDeclaredFields()) {
            if (!Modifier.isPrivate(f.getModifiers())) {
                got.add(Modifier.toString(f.getModifiers()) + " " + f.getType() + " " + f.getName());
            }
            if (Modifier.isStatic(f.getModifiers())) {
                Due.is("static " + f.getName() + " is final", Modifier.isFinal(f.getModifiers()), true);
            }
        }
        for (Method m : TrapGate.class.getDeclaredMethods()) {
            if (!Modifier.isPrivate(m.getModifiers())) {
                String parameters = java.util.Arrays.toString(m.getParameterTypes()).replace("[", "(").replace("]", ")");
                got.add(Modifier.toString(m.getModifiers()) + " " + m.getReturnType() + " " + m.getName() + parameters);
                publicNames.add(m.getName());
            }
        }
        for (Method m : TrapGate.class.getDeclaredMethods()) {
            boolean isHidden = Modifier.isPrivate(m.getModifiers());
            Due.is("private " + m.getName() + " has a public name", isHidden && publicNames.contains(m.getName()), false);
        }
        for (Class<?> c : TrapGate.class.getDeclaredClasses()) {
            int m = c.getModifiers();
            Due.is(c + " is static", Modifier.isStatic(m), true);
            Due.is(c + " is shown", Modifier.isPublic(m) || Modifier.isProtected(m), false);
        }
        if (!got.equals(want)) {
            System.out.println("the face is " + got);
        }
        Due.is("the face is the document's", got.equals(want), true);
        Due.is("TrapGate is public and final", TrapGate.class.getModifiers(), Modifier.PUBLIC | Modifier.FINAL);
        Due.is("constructors", TrapGate.class.getDeclaredConstructors().length, 1);
        Due.is("public constructors", TrapGate.class.getConstructors().length, 1);
        Due.is("NONE", TrapGate.NONE, -1);
        Due.end();
    }
}
