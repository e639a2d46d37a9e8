import java.lang.reflect.Constructor;
import java.lang.reflect.Field;
import java.lang.reflect.Method;
import java.lang.reflect.Modifier;
import java.util.ArrayList;
import java.util.List;
import java.util.Set;
import java.util.TreeSet;

/** The class has the document's public face, and nothing else that is seen from outside. */
public final class FaceTest {
    private static final String BOUNDS = " IndexOutOfBoundsException";
    private static final String ARGUMENT = " IllegalArgumentException";
    private static final String STATE = " IllegalStateException";

    public static void main(String[] args) {
        theMethods();
        nothingElse();
        nothingStaticThatChanges();
        Check.end("FaceTest");
    }

    private static void theMethods() {
        Set<String> due = new TreeSet<>(List.of(
                "int lift(int,int)" + ARGUMENT + STATE,
                "int run(int,int,int,int,int)" + BOUNDS + ARGUMENT + STATE,
                "boolean turn(int,boolean)" + BOUNDS,
                "boolean release(int)" + BOUNDS + STATE,
                "int guns(int,int)" + BOUNDS + ARGUMENT,
                "int fill(int)" + ARGUMENT,
                "int crowd(int)" + ARGUMENT,
                "int pass(int,int,int,int,int,int)" + ARGUMENT + STATE,
                "int blast(int)" + BOUNDS + STATE,
                "int search(int)" + BOUNDS + STATE,
                "int test(int)" + BOUNDS,
                "boolean sweep(int)" + BOUNDS + STATE,
                "boolean winch(int,boolean)" + BOUNDS + STATE,
                "int groom(int)" + BOUNDS + STATE,
                "int open(int)" + BOUNDS + STATE,
                "int close(int)" + BOUNDS + STATE,
                "int ofRun(int,int)" + BOUNDS + ARGUMENT,
                "int ofLayer(int,int,int)" + BOUNDS + ARGUMENT,
                "int ofLift(int,int)" + BOUNDS + ARGUMENT,
                "int many(int)" + ARGUMENT,
                "double meanDepth()",
                "int wouldRisk(int,int,int,int)" + BOUNDS + ARGUMENT,
                "int wouldMake(int,int,int,int)" + BOUNDS + ARGUMENT,
                "int nextBlast()",
                "int couldOpen()",
                "long digest()"));
        Set<String> got = new TreeSet<>();
        for (Method method : Pistekeeper.class.getDeclaredMethods()) {
            if (Modifier.isPublic(method.getModifiers())) {
                got.add(describe(method));
            }
        }
        for (String each : due) {
            Check.same("there is " + each, got.contains(each), true);
        }
        for (String each : got) {
            Check.same("the document has " + each, due.contains(each), true);
        }
    }

    private static String describe(Method method) {
        List<String> takes = new ArrayList<>();
        for (Class<?> each : method.getParameterTypes()) {
            takes.add(each.getSimpleName());
        }
        StringBuilder text = new StringBuilder();
        text.append(method.getReturnType().getSimpleName()).append(' ').append(method.getName());
        text.append('(').append(String.join(",", takes)).append(')');
        for (Class<?> each : method.getExceptionTypes()) {
            text.append(' ').append(each.getSimpleName());
        }
        return text.toString();
    }

    private static void nothingElse() {
        Class<?> face = Pistekeeper.class;
        Check.same("public", Modifier.isPublic(face.getModifiers()), true);
        Check.same("final", Modifier.isFinal(face.getModifiers()), true);
        Constructor<?>[] made = face.getDeclaredConstructors();
        Check.same("constructors", made.length, 1);
        Check.same("the constructor takes", made[0].getParameterCount(), 0);
        Check.same("the constructor is public", Modifier.isPublic(made[0].getModifiers()), true);
        Set<String> publics = new TreeSet<>();
        for (Method method : face.getMethods()) {
            publics.add(method.getName());
        }
        for (Method method : face.getDeclaredMethods()) {
            boolean isPublic = Modifier.isPublic(method.getModifiers());
            if (!isPublic && !method.isSynthetic()) {
                Check.same(method.getName() + " is private", Modifier.isPrivate(method.getModifiers()), true);
                Check.same(method.getName() + " bears a public name", publics.contains(method.getName()), false);
            }
        }
        for (Field field : face.getDeclaredFields()) {
            boolean isHidden = Modifier.isPrivate(field.getModifiers()) || field.isSynthetic();
            Check.same(field.getName() + " is private", isHidden, true);
        }
    }

    private static void nothingStaticThatChanges() {
        List<Class<?>> all = new ArrayList<>(List.of(Pistekeeper.class.getDeclaredClasses()));
        all.add(Pistekeeper.class);
        for (Class<?> each : all) {
            for (Field field : each.getDeclaredFields()) {
                int is = field.getModifiers();
                boolean isSafe = !Modifier.isStatic(is) || Modifier.isFinal(is) && field.getType().isPrimitive();
                Check.same(each.getSimpleName() + "." + field.getName() + " is a constant", isSafe, true);
            }
        }
    }
}
