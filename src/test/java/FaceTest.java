import java.lang.reflect.Constructor;
import java.lang.reflect.Field;
import java.lang.reflect.Method;
import java.lang.reflect.Modifier;
import java.util.Arrays;
import java.util.TreeSet;

/** The class has the document's face, and no other member that is not private but for classes inside it. */
public final class FaceTest {
    private static final String I = " IllegalArgumentException";
    private static final String S = " IllegalStateException";
    private static final String X = " IndexOutOfBoundsException";
    private static final String[] FACE = {
        "int append(int)" + I + S, "int clearText()", "int errorPosition()", "int load()" + S, "int about(int)" + I,
        "int shown(int)" + X, "long worth(int)" + X, "int counter(int,int)" + X + I, "int place(int,int,int)" + X + I,
        "long ticket(int,int)" + X + I, "int sorted(int)" + X, "int ranked(int,boolean)" + X,
        "int add(int,int)" + X + I + S, "int draw(int)" + X + S, "int beats(int)" + I, "int setPace(int)" + I,
        "int link(int,boolean)" + X, "int resize(int,int)" + X + I, "long pour(int,int)" + X + I, "int undo()" + S,
        "int settled(int)" + X, "int shownAtLast(int)" + X, "int whenShown(int,int)" + X + I, "int leastPace(int)" + I,
        "int slowest(int)" + X, "int doubles(int,int)" + X + I, "int runScript(int,long)" + I,
        "int simulate(long,int)" + I, "int save(int)" + X, "int restore(int)" + X + S};

    private FaceTest() {
    }

    public static void main(String[] args) {
        TreeSet<String> found = new TreeSet<>();
        TreeSet<String> publicNames = new TreeSet<>();
        for (Method m : LateCarries.class.getDeclaredMethods()) {
            if (!Modifier.isPrivate(m.getModifiers()) && !m.isSynthetic()) {
                found.add((Modifier.isPublic(m.getModifiers()) ? "" : "not public: ") + told(m));
                publicNames.add(m.getName());
            }
        }
        Check.same("the face", found.toString(), new TreeSet<>(Arrays.asList(FACE)).toString());
        privateNames(LateCarries.class, publicNames);
        for (Class<?> inside : LateCarries.class.getDeclaredClasses()) {
            privateNames(inside, publicNames);
            Check.same(inside + " is static", Modifier.isStatic(inside.getModifiers()) ? 1 : 0, 1);
            Check.same(inside + " is not public", Modifier.isPublic(inside.getModifiers()) ? 1 : 0, 0);
        }
        fieldsAndConstructors();
        Check.finish("FaceTest");
    }

    private static String told(Method m) {
        StringBuilder b = new StringBuilder(m.getReturnType().getSimpleName()).append(' ').append(m.getName()).append('(');
        for (int i = 0; i < m.getParameterCount(); i++) {
            b.append(i == 0 ? "" : ",").append(m.getParameterTypes()[i].getSimpleName());
        }
        b.append(')');
        for (Class<?> thrown : m.getExceptionTypes()) {
            b.append(' ').append(thrown.getSimpleName());
        }
        return b.toString();
    }

    private static void privateNames(Class<?> where, TreeSet<String> publicNames) {
        for (Method m : where.getDeclaredMethods()) {
            if (where != LateCarries.class || Modifier.isPrivate(m.getModifiers())) {
                Check.same(where + " has a method with a public name: " + m.getName(), publicNames.contains(m.getName()) ? 1 : 0, 0);
            }
        }
    }

    private static void fieldsAndConstructors() {
        int modifiers = LateCarries.class.getModifiers();
        Check.same("public final", Modifier.isPublic(modifiers) && Modifier.isFinal(modifiers) ? 1 : 0, 1);
        for (Field f : LateCarries.class.getDeclaredFields()) {
            boolean isFace = f.getName().equals("NONE");
            Check.same("public: " + f.getName(), Modifier.isPublic(f.getModifiers()) ? 1 : 0, isFace ? 1 : 0);
            Check.same("private: " + f.getName(), Modifier.isPrivate(f.getModifiers()) ? 1 : 0, isFace ? 0 : 1);
            if (Modifier.isStatic(f.getModifiers())) {
                Check.same("final: " + f.getName(), Modifier.isFinal(f.getModifiers()) ? 1 : 0, 1);
            }
        }
        Constructor<?>[] constructors = LateCarries.class.getDeclaredConstructors();
        Check.same("constructors", constructors.length, 1);
        Check.same("its arguments", constructors[0].getParameterCount(), 0);
        Check.same("it is public", Modifier.isPublic(constructors[0].getModifiers()) ? 1 : 0, 1);
    }
}
