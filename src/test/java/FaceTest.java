import java.lang.reflect.Constructor;
import java.lang.reflect.Field;
import java.lang.reflect.Method;
import java.lang.reflect.Modifier;
import java.util.Set;
import java.util.TreeSet;

/** The class shows the document's face, with the exceptions in their order, and nothing else. */
public final class FaceTest {
    private static final String INDEX = " IndexOutOfBoundsException";
    private static final String ARGUMENT = " IllegalArgumentException";
    private static final String STATE = " IllegalStateException";
    private static final String[] FACE = {
        "boolean exempt(int,int,boolean)" + INDEX,
        "double meanDue(int)" + ARGUMENT,
        "int bestMinute(int,int)" + INDEX,
        "int bill(int,int,int)" + INDEX + ARGUMENT,
        "int cap(int)" + ARGUMENT,
        "int cheapest(int,int,int)" + INDEX,
        "int control(int,int,int)" + INDEX + ARGUMENT + STATE,
        "int correct(int,int)" + INDEX + STATE,
        "int dispute(int,int)" + INDEX + ARGUMENT,
        "int holiday(int)" + ARGUMENT + STATE,
        "int journeys(int,int)" + INDEX + ARGUMENT,
        "int many(int)" + ARGUMENT,
        "int ofOwner(int,int)" + INDEX + ARGUMENT,
        "int ofPassage(int,int,int,int)" + INDEX + ARGUMENT,
        "int ofSegment(int,int)" + INDEX + ARGUMENT,
        "int ofSighting(int,int)" + INDEX + ARGUMENT,
        "int ofVehicle(int,int)" + INDEX + ARGUMENT,
        "int pass(int)" + ARGUMENT + STATE,
        "int passages(int,int)" + INDEX + ARGUMENT,
        "int pay(int,int)" + INDEX + ARGUMENT,
        "int see(int,int,int,int)" + INDEX + ARGUMENT + STATE,
        "int segment(int,int,int,int)" + INDEX + ARGUMENT + STATE,
        "int shut(int,int,int)" + INDEX + ARGUMENT + STATE,
        "int tariff(int,int,int,int,int)" + INDEX + ARGUMENT + STATE,
        "int toll(int,int,int)" + INDEX + ARGUMENT,
        "int vehicle(int,int,int)" + ARGUMENT + STATE,
        "int wouldSave(int)" + INDEX,
        "long digest()",
    };

    public static void main(String[] args) {
        Class<?> type = GantryHall.class;
        Check.same("public", true, Modifier.isPublic(type.getModifiers()));
        Check.same("final", true, Modifier.isFinal(type.getModifiers()));
        methods(type);
        Constructor<?>[] constructors = type.getDeclaredConstructors();
        Check.same("one constructor", 1, constructors.length);
        Check.same("it is public", true, Modifier.isPublic(constructors[0].getModifiers()));
        Check.same("it takes nothing", 0, constructors[0].getParameterCount());
        for (Field field : type.getDeclaredFields()) {
            Check.same("private " + field.getName(), true, Modifier.isPrivate(field.getModifiers()));
        }
        for (Class<?> inside : type.getDeclaredClasses()) {
            Check.same("static " + inside.getName(), true, Modifier.isStatic(inside.getModifiers()));
            Check.same("not public " + inside.getName(), false, Modifier.isPublic(inside.getModifiers()));
        }
        Check.end("FaceTest");
    }

    private static void methods(Class<?> type) {
        Set<String> due = new TreeSet<>(Set.of(FACE));
        Set<String> got = new TreeSet<>();
        Set<String> names = new TreeSet<>();
        for (Method method : type.getDeclaredMethods()) {
            if (Modifier.isPublic(method.getModifiers())) {
                got.add(text(method));
                names.add(method.getName());
            }
        }
        Check.same("the face is " + got + ", due is " + due, true, due.equals(got));
        for (Method method : type.getDeclaredMethods()) {
            if (!Modifier.isPublic(method.getModifiers())) {
                Check.same("private " + method.getName(), true, Modifier.isPrivate(method.getModifiers()));
                Check.same("name of a public one: " + method.getName(), false, names.contains(method.getName()));
            }
        }
    }

    private static String text(Method method) {
        StringBuilder text = new StringBuilder();
        text.append(method.getReturnType().getName()).append(' ').append(method.getName()).append('(');
        String between = "";
        for (Class<?> parameter : method.getParameterTypes()) {
            text.append(between).append(parameter.getName());
            between = ",";
        }
        text.append(')');
        for (Class<?> exception : method.getExceptionTypes()) {
            text.append(' ').append(exception.getSimpleName());
        }
        return text.toString();
    }
}
