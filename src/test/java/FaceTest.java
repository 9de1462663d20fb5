import java.lang.reflect.Constructor;
import java.lang.reflect.Field;
import java.lang.reflect.Method;
import java.lang.reflect.Modifier;
import java.util.TreeSet;

/** The public face is the document's, and nothing else of the class can be seen from outside. */
public final class FaceTest {
    private static final String[] METHODS = {
        "int price(int, int) Index Argument",
        "int client() State",
        "long pay(int, int) Index Argument State",
        "int goal(int, int, int) Index Argument State",
        "int buy(int, int, int) Index Argument State",
        "int sell(int, int, int) Index Argument State",
        "int balance(int) Index State",
        "long complain(int) Index State",
        "int pass(int) Argument State",
        "long cash(int) Index",
        "long parts(int, int) Index",
        "long units(int) Index",
        "long tradeOf(int, int) Index Argument",
        "long lot(int, int, int, int) Index Argument",
        "long year(int, int, int) Index Argument",
        "long wealth(int) Index",
    };
    private static boolean wrong;

    public static void main(String[] args) {
        Class<?> face = SavingsHall.class;
        check(Modifier.isPublic(face.getModifiers()) && Modifier.isFinal(face.getModifiers()), "public and final");
        checkMethods(face);
        checkFields(face);
        checkConstructors(face);
        for (Class<?> inside : face.getDeclaredClasses()) {
            boolean open = Modifier.isPublic(inside.getModifiers()) || Modifier.isProtected(inside.getModifiers());
            check(!open && Modifier.isStatic(inside.getModifiers()), "the class " + inside.getName());
        }
        check(SavingsHall.NONE == -1, "NONE is -1");
        System.out.println(wrong ? "the face is wrong" : "the face is right");
        if (wrong) {
            System.exit(1);
        }
    }

    private static void check(boolean right, String what) {
        if (!right) {
            wrong = true;
            System.out.println("wrong: " + what);
        }
    }

    private static void checkMethods(Class<?> face) {
        TreeSet<String> due = new TreeSet<>(java.util.Arrays.asList(METHODS));
        TreeSet<String> names = new TreeSet<>();
        for (Method method : face.getDeclaredMethods()) {
            if (!Modifier.isPrivate(method.getModifiers())) {
                names.add(method.getName());
                check(Modifier.isPublic(method.getModifiers()) && !Modifier.isStatic(method.getModifiers()),
                        "how " + method.getName() + " is seen");
                String told = tell(method);
                check(due.remove(told), told);
            }
        }
        check(due.isEmpty(), "missing " + due);
        for (Method method : face.getDeclaredMethods()) {
            if (Modifier.isPrivate(method.getModifiers())) {
                check(!names.contains(method.getName()), "private " + method.getName());
            }
        }
    }

    private static String tell(Method method) {
        StringBuilder told = new StringBuilder(method.getReturnType() + " " + method.getName() + "(");
        for (int i = 0; i < method.getParameterCount(); i++) {
            told.append(i == 0 ? "" : ", ").append(method.getParameterTypes()[i]);
        }
        told.append(")");
        for (Class<?> thrown : method.getExceptionTypes()) {
            told.append(" ").append(thrown.getSimpleName()
                    .replace("OutOfBoundsException", "").replace("Illegal", "").replace("Exception", ""));
        }
        return told.toString();
    }

    private static void checkFields(Class<?> face) {
        for (Field field : face.getDeclaredFields()) {
            int modifiers = field.getModifiers();
            if (field.getName().equals("NONE")) {
                check(Modifier.isPublic(modifiers) && field.getType() == int.class, "NONE is a public int");
            } else {
                check(Modifier.isPrivate(modifiers), "the field " + field.getName());
            }
            check(!Modifier.isStatic(modifiers) || Modifier.isFinal(modifiers), "the static " + field.getName());
        }
    }

    private static void checkConstructors(Class<?> face) {
        Constructor<?>[] constructors = face.getDeclaredConstructors();
        check(constructors.length == 1 && constructors[0].getParameterCount() == 0
                && Modifier.isPublic(constructors[0].getModifiers()), "the constructor");
    }
}
