import java.lang.reflect.Constructor;
import java.lang.reflect.Field;
import java.lang.reflect.Method;
import java.lang.reflect.Modifier;
import java.util.NoSuchElementException;
import java.util.Random;
import java.util.TreeSet;

/** The face of the class, whole and nothing beside it; and that no call throws what the document does not tell. */
public final class FaceTest {
    private static final String[] FACE = {
        "int days(int)", "int person(int,int,int)", "int line(int,int,int,int,int,int)", "int told(int,int)",
        "boolean stop(int,int)", "int stopped(int,int)", "int feed(int,int,int,int,int)", "boolean end(int)",
        "int fault()", "int rule(int)", "int force(int,int)", "int asked(int,int,int,int)",
        "int shown(int,int,int,int)", "int digest(int,int,int,int,int)", "int left(int,int,int,int)",
        "boolean happen(int,int,int,boolean)", "int truth(int,int)", "int way(int,int,int,int)",
        "int bearers(int,int)", "boolean mark(int,int,int)", "int marked(int,int,int)",
        "int agree(int,int,int,int)", "int habit(int,int)", "int held(int,int)", "boolean land(int,int,int)",
        "int span(int,int,int,int)", "int mood(int,int,int)", "int turn(int,int,int,int)", "int last(int,int)",
        "int lean(int,int)", "int watcher(int,int)", "int want(int,int)", "int table(int)", "int alike(int,int)",
        "int hide(int)", "int question(int,int)", "int buy(int)", "int judge(int,int)", "int lot(int,long,int)",
        "int beside(int,long,int)", "int count(int)",
    };
    private static final int[] ARGUMENTS = {0, 0, 0, 1, 1, 2, 3, 5, 7, 9, 10, 20, -1, -2, 23, 24, 29, 30, 50, 99,
        100, 160, 161, 199, 200, 255, 256, 400, 401, 999, 1000, 1001, 9999, 10000, 65535, 65536, 0x713A6100,
        Integer.MAX_VALUE, Integer.MIN_VALUE, -1000000, 1 << 30};

    public static void main(String[] args) throws ReflectiveOperationException {
        methods();
        fieldsAndConstructors();
        insideClasses();
        for (int seed = 0; seed < 300; seed++) {
            anyArguments(new Random(seed));
        }
        Due.end();
    }

    private static void methods() {
        TreeSet<String> missing = new TreeSet<>(java.util.List.of(FACE));
        TreeSet<String> names = new TreeSet<>();
        for (String one : FACE) {
            names.add(one.substring(one.indexOf(' ') + 1, one.indexOf('(')));
        }
        for (Method method : DiaryHouse.class.getDeclaredMethods()) {
            int kind = method.getModifiers();
            if (Modifier.isPublic(kind)) {
                Due.is("in the face: " + signOf(method), missing.remove(signOf(method)), true);
                Due.is("is static: " + signOf(method), Modifier.isStatic(kind), false);
            } else {
                Due.is("is private: " + method, Modifier.isPrivate(kind), true);
                Due.is("has a name of the face: " + method, names.contains(method.getName()), false);
            }
            int throwing = method.getName().equals("told") ? 1 : 0;
            Due.is("throws of " + method, method.getExceptionTypes().length, throwing);
        }
        Due.is("methods that the face misses: " + missing, missing.size(), 0);
    }

    private static String signOf(Method method) {
        StringBuilder sign = new StringBuilder(method.getReturnType() + " " + method.getName() + "(");
        for (Class<?> type : method.getParameterTypes()) {
            sign.append(sign.charAt(sign.length() - 1) == '(' ? "" : ",").append(type);
        }
        return sign.append(')').toString();
    }

    private static void fieldsAndConstructors() {
        for (Field field : DiaryHouse.class.getDeclaredFields()) {
            boolean isOpen = field.getName().equals("NONE") || field.getName().equals("HIDDEN");
            Due.is("is open: " + field, Modifier.isPublic(field.getModifiers()), isOpen);
            Due.is("is private or open: " + field, Modifier.isPrivate(field.getModifiers()) || isOpen, true);
            Due.is("is final if static: " + field, !Modifier.isStatic(field.getModifiers())
                    || Modifier.isFinal(field.getModifiers()), true);
        }
        Due.is("NONE", DiaryHouse.NONE, -1);
        Due.is("HIDDEN", DiaryHouse.HIDDEN, -1000000);
        Constructor<?>[] constructors = DiaryHouse.class.getDeclaredConstructors();
        Due.is("constructors", constructors.length, 1);
        Due.is("its parameters", constructors[0].getParameterCount(), 0);
        Due.is("is public", Modifier.isPublic(constructors[0].getModifiers()), true);
        Due.is("the class is final", Modifier.isFinal(DiaryHouse.class.getModifiers()), true);
        Due.is("the class is public", Modifier.isPublic(DiaryHouse.class.getModifiers()), true);
    }

    private static void insideClasses() {
        Class<?>[] inside = DiaryHouse.class.getDeclaredClasses();
        Due.is("classes in the file, at most twelve", inside.length + 1 <= 12, true);
        for (Class<?> one : inside) {
            int kind = one.getModifiers();
            Due.is("static: " + one, Modifier.isStatic(kind), true);
            Due.is("private or package-visible: " + one, Modifier.isPublic(kind) || Modifier.isProtected(kind), false);
            for (Field field : one.getDeclaredFields()) {
                Due.is("is final if static: " + field, !Modifier.isStatic(field.getModifiers())
                        || Modifier.isFinal(field.getModifiers()), true);
            }
        }
    }

    /** Calls of any kind with any arguments: the document tells one exception of one method. */
    private static void anyArguments(Random random) throws ReflectiveOperationException {
        DiaryHouse house = new DiaryHouse();
        Method[] methods = DiaryHouse.class.getMethods();
        for (int call = 0; call < 512; call++) {
            Method method = methods[random.nextInt(methods.length)];
            if (method.getDeclaringClass() != DiaryHouse.class) {
                continue;
            }
            Object[] arguments = new Object[method.getParameterCount()];
            for (int i = 0; i < arguments.length; i++) {
                int one = ARGUMENTS[random.nextInt(random.nextBoolean() ? 10 : ARGUMENTS.length)];
                Class<?> type = method.getParameterTypes()[i];
                arguments[i] = type == long.class ? (Object) (long) one : type == boolean.class ? one > 0 : one;
            }
            try {
                method.invoke(house, arguments);
            } catch (java.lang.reflect.InvocationTargetException e) {
                boolean isTold = method.getName().equals("told")
                        && e.getCause().getClass() == NoSuchElementException.class;
                Due.is(method.getName() + java.util.Arrays.toString(arguments) + " throws " + e.getCause(),
                        isTold, true);
            }
        }
    }
}
