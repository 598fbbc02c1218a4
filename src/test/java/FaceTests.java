import java.lang.reflect.Constructor;
import java.lang.reflect.Field;
import java.lang.reflect.InvocationTargetException;
import java.lang.reflect.Method;
import java.lang.reflect.Modifier;
import java.util.Arrays;
import java.util.Random;
import java.util.Set;
import java.util.TreeSet;

/** The public face as the document writes it, nothing beside it, and no call that throws what it does not name there. */
public final class FaceTests {
    private static final String ARGUMENT = "IllegalArgumentException";
    private static final String STATE = "IllegalStateException";
    private static final String BOTH = " throws " + ARGUMENT + ", " + STATE;

    // As they stand in the document, but that parameters have no names.
    private static final String[] METHODS = {
        "public void type(int, int)" + BOTH,
        "public int argument(int, int, int)" + BOTH,
        "public int any(int)" + BOTH,
        "public int number(int, int, boolean)" + BOTH,
        "public int make(int, int, boolean)" + BOTH,
        "public int either() throws " + STATE,
        "public int name(int)" + BOTH,
        "public int pop(boolean)",
        "public int addCase(boolean) throws " + STATE,
        "public int build() throws " + STATE + ", UnsupportedOperationException",
        "public int match(int) throws " + STATE,
        "public int asked(int)",
        "public int bound(int) throws " + ARGUMENT,
        "public int boundAt(int, int) throws " + ARGUMENT,
        "public int missing(int)",
        "public int unused(int)",
        "public int question(int, int) throws " + ARGUMENT,
        "public int about(int) throws " + ARGUMENT,
        "public void clear()",
    };

    private static final int[] ODD_NUMBERS = {Integer.MIN_VALUE, -1000, -1, 16, 40, 60, 1000, Integer.MAX_VALUE};

    private static int wrong = 0;
    private static int answered = 0;
    private static int refused = 0;

    public static void main(String[] args) throws ReflectiveOperationException {
        classIsPublicAndFinal();
        constantsAreDue();
        constructorIsDue();
        methodsAreDue();
        classesInsideAreHidden();
        for (int run = 0; run < 400 && wrong < 20; run++) {
            throwsOnlyWhatIsNamed(new Random(run));
        }
        System.out.println(answered + " calls answered, " + refused + " refused");
        if (answered < 50000 || refused < 50000) {
            complain("the runs are too tame");
        }
        System.out.println(wrong == 0 ? "all answers are as due" : wrong + " answers are not as due");
        if (wrong != 0) {
            System.exit(1);
        }
    }

    private static void complain(String what) {
        wrong++;
        System.out.println(what);
    }

    private static void same(String what, Set<String> got, Set<String> want) {
        for (String one : got) {
            if (!want.contains(one)) {
                complain(what + ": there is " + one + ", which is not due");
            }
        }
        for (String one : want) {
            if (!got.contains(one)) {
                complain(what + ": there is no " + one + ", which is due");
            }
        }
    }

    private static void classIsPublicAndFinal() {
        same("class", Set.of(Modifier.toString(MatchMill.class.getModifiers())), Set.of("public final"));
        same("package", Set.of(MatchMill.class.getPackageName()), Set.of(""));
        same("what it is made from", Set.of(MatchMill.class.getSuperclass().getName()), Set.of("java.lang.Object"));
    }

    private static void constantsAreDue() {
        Set<String> got = new TreeSet<>();
        for (Field field : MatchMill.class.getDeclaredFields()) {
            if (!Modifier.isPrivate(field.getModifiers())) {
                got.add(Modifier.toString(field.getModifiers()) + " " + field.getType() + " " + field.getName());
            }
        }
        same("constants", got, Set.of("public static final int NONE"));
        same("NONE", Set.of(Integer.toString(MatchMill.NONE)), Set.of("-1"));
    }

    private static void constructorIsDue() {
        Set<String> got = new TreeSet<>();
        for (Constructor<?> constructor : MatchMill.class.getDeclaredConstructors()) {
            got.add(constructor.toString());
        }
        same("constructors", got, Set.of("public MatchMill()"));
    }

    private static void methodsAreDue() {
        Set<String> got = new TreeSet<>();
        for (Method method : MatchMill.class.getDeclaredMethods()) {
            if (!Modifier.isPrivate(method.getModifiers()) && !method.isSynthetic()) {
                got.add(written(method));
            }
        }
        same("methods", got, new TreeSet<>(Arrays.asList(METHODS)));
    }

    private static String written(Method method) {
        StringBuilder text = new StringBuilder(Modifier.toString(method.getModifiers()));
        text.append(' ').append(method.getReturnType()).append(' ').append(method.getName()).append('(');
        text.append(listed(method.getParameterTypes())).append(')');
        if (method.getExceptionTypes().length > 0) {
            text.append(" throws ").append(listed(method.getExceptionTypes()));
        }
        return text.toString();
    }

    private static String listed(Class<?>[] types) {
        StringBuilder text = new StringBuilder();
        for (Class<?> type : types) {
            text.append(text.length() == 0 ? "" : ", ").append(type.getSimpleName());
        }
        return text.toString();
    }

    private static void classesInsideAreHidden() {
        for (Class<?> inside : MatchMill.class.getDeclaredClasses()) {
            int is = inside.getModifiers();
            if (Modifier.isPublic(is) || Modifier.isProtected(is) || !Modifier.isStatic(is)) {
                complain("class " + inside.getSimpleName() + " is " + Modifier.toString(is));
            }
        }
    }

    /** 512 calls with numbers that are often at the edge of what they may be, or far outside. */
    private static void throwsOnlyWhatIsNamed(Random random) throws ReflectiveOperationException {
        Method[] methods = MatchMill.class.getMethods();
        Arrays.sort(methods, (a, b) -> a.getName().compareTo(b.getName()));
        MatchMill mill = new MatchMill();
        int calls = 0;
        while (calls < 512) {
            Method method = methods[random.nextInt(methods.length)];
            boolean rare = method.getName().equals("clear") && random.nextInt(40) != 0;
            // Types only at first, more often than not: no pattern is made without any.
            boolean early = calls < 20 && !method.getName().equals("type") && !method.getName().equals("argument");
            if (method.getDeclaringClass() == MatchMill.class && !rare && !early) {
                calls++;
                call(mill, method, random);
            }
        }
    }

    private static void call(MatchMill mill, Method method, Random random) throws ReflectiveOperationException {
        Object[] arguments = new Object[method.getParameterCount()];
        for (int i = 0; i < arguments.length; i++) {
            boolean truth = method.getParameterTypes()[i] == boolean.class;
            arguments[i] = truth ? (Object) random.nextBoolean() : (Object) number(random);
        }
        try {
            method.invoke(mill, arguments);
            answered++;
        } catch (InvocationTargetException e) {
            refused++;
            if (!Arrays.asList(method.getExceptionTypes()).contains(e.getCause().getClass())) {
                complain(method.getName() + Arrays.toString(arguments) + " throws " + e.getCause());
            }
        }
    }

    private static int number(Random random) {
        boolean odd = random.nextInt(12) == 0;
        return odd ? ODD_NUMBERS[random.nextInt(ODD_NUMBERS.length)] : random.nextInt(random.nextBoolean() ? 3 : 10);
    }
}
