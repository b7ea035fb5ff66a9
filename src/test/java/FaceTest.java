import java.lang.reflect.Constructor;
import java.lang.reflect.Field;
import java.lang.reflect.Method;
import java.lang.reflect.Modifier;
import java.util.Set;
import java.util.TreeSet;

/** The public face: just the document's constants, constructor and methods. */
public final class FaceTest {
    private static final String[] CONSTANTS = {
        "NONE=-1", "NUMBER=0", "FUNCTION=1", "DATA=2", "RAISED=3", "LOOP=4", "WRONG=5", "ENDLESS=6", "INTERRUPTED=7",
        "FOLD=0", "DEAD=1", "BETA=2", "KNOWN=3", "ONCE=4", "STRICTLY=5", "INLINE=6", "FLOAT=7", "FUSE=8"};

    private static final String[] METHODS = {
        "num(int) S", "var(int) A S", "global(int) A S", "lam(int,int) I A S", "app(int,int) I A S",
        "let(int,int,int) I A S", "con(int,int,int) I A S", "match(int,int,int,int,int,int) I A S",
        "choose(int,int,int) I S", "prim(int,int,int) I A S", "seq(int,int) I S", "raise(int) I S",
        "hold(int,int,int) I A S", "par(int,int) I A S", "centre(int,int) I A S", "define(int,int) I A S",
        "rule(int,int,int) A S", "begin()", "pass(int,int) A S", "run(int,int,int,int,int,boolean) A S",
        "plainly(int,int,int,int,boolean) A S", "value()", "count(int) A", "needed(int,int) A",
        "size(int,boolean) A S", "node(int,int,int) I A"};

    public static void main(String[] args) throws IllegalAccessException {
        same("constants", CONSTANTS, constants());
        same("methods", METHODS, methods());
        Check.due("the class is public and final", LazyLoom.class.getModifiers(), Modifier.PUBLIC | Modifier.FINAL);
        Constructor<?>[] constructors = LazyLoom.class.getDeclaredConstructors();
        Check.due("constructors", constructors.length, 1);
        Check.due("it is public", constructors[0].getModifiers(), Modifier.PUBLIC);
        Check.due("it takes nothing", constructors[0].getParameterCount(), 0);
        for (Class<?> inside : LazyLoom.class.getDeclaredClasses()) {
            int modifiers = inside.getModifiers();
            Check.due(inside + " is static", Modifier.isStatic(modifiers) ? 1 : 0, 1);
            Check.due(inside + " is not seen", modifiers & (Modifier.PUBLIC | Modifier.PROTECTED), 0);
        }
        Check.end("FaceTest");
    }

    private static Set<String> constants() throws IllegalAccessException {
        Set<String> found = new TreeSet<>();
        for (Field field : LazyLoom.class.getDeclaredFields()) {
            int modifiers = field.getModifiers();
            if (Modifier.isPrivate(modifiers)) {
                continue;
            }
            boolean isConstant = modifiers == (Modifier.PUBLIC | Modifier.STATIC | Modifier.FINAL)
                && field.getType() == int.class;
            found.add(isConstant ? field.getName() + "=" + field.getInt(null) : field.toString());
        }
        return found;
    }

    private static Set<String> methods() {
        Set<String> found = new TreeSet<>();
        for (Method method : LazyLoom.class.getDeclaredMethods()) {
            int modifiers = method.getModifiers();
            if (Modifier.isPrivate(modifiers) || method.isSynthetic()) {
                continue;
            }
            StringBuilder told = new StringBuilder(method.getName()).append('(');
            for (Class<?> type : method.getParameterTypes()) {
                told.append(told.charAt(told.length() - 1) == '(' ? "" : ",").append(type.getName());
            }
            told.append(')');
            for (Class<?> thrown : method.getExceptionTypes()) {
                String name = thrown.getSimpleName();
                told.append(name.equals("IndexOutOfBoundsException") ? " I"
                    : name.equals("IllegalArgumentException") ? " A"
                    : name.equals("IllegalStateException") ? " S" : " " + name);
            }
            boolean isPlain = modifiers == Modifier.PUBLIC && method.getReturnType() == int.class;
            found.add(isPlain ? told.toString() : method.toString());
        }
        return found;
    }

    private static void same(String what, String[] due, Set<String> got) {
        Set<String> want = new TreeSet<>(java.util.Arrays.asList(due));
        if (want.equals(got)) {
            Check.due(what, got.size(), due.length);
        } else {
            Check.fail(what + " are " + got + ", due are " + want);
        }
    }
}
