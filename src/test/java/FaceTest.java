import java.lang.reflect.Constructor;
import java.lang.reflect.Field;
import java.lang.reflect.Method;
import java.lang.reflect.Modifier;
import java.util.Set;
import java.util.TreeSet;

/** The class shows the document's face and nothing else. */
public final class FaceTest {
    private static final String[] FACE = {
        "boolean exempt(int,int,boolean)",
        "double meanDue(int)",
        "int bestMinute(int,int)",
        "int bill(int,int,int)",
        "int cap(int)",
        "int cheapest(int,int,int)",
        "int control(int,int,int)",
        "int correct(int,int)",
        "int dispute(int,int)",
        "int holiday(int)",
        "int journeys(int,int)",
        "int many(int)",
        "int ofOwner(int,int)",
        "int ofPassage(int,int,int,int)",
        "int ofSegment(int,int)",
        "int ofSighting(int,int)",
        "int ofVehicle(int,int)",
        "int pass(int)",
        "int passages(int,int)",
        "int pay(int,int)",
        "int see(int,int,int,int)",
        "int segment(int,int,int,int)",
        "int shut(int,int,int)",
        "int tariff(int,int,int,int,int)",
        "int toll(int,int,int)",
        "int vehicle(int,int,int)",
        "int wouldSave(int)",
        "long digest()",
    };

    public static void main(String[] args) {
        Class<?> type = GantryHall.class;
        Check.same("public", true, Modifier.isPublic(type.getModifiers()));
        Check.same("final", true, Modifier.isFinal(type.getModifiers()));
        methods(type);
        Constructor<?>[] constructors = type.getDeclaredConstructors();
        Check.same("one constructor", 1, constructors.length);
        Check.same("it is public", true, Modifier.isPublic(constructors[0].getModifiers()));
        Check.same("it takes nothing", 0, constructors[0].getParameterCount());
        for (Field field : type.getDeclaredFields()) {
            Check.same("private " + field.getName(), true, Modifier.isPrivate(field.getModifiers()));
        }
        for (Class<?> inside : type.getDeclaredClasses()) {
            Check.same("static " + inside.getName(), true, Modifier.isStatic(inside.getModifiers()));
            Check.same("not public " + inside.getName(), false, Modifier.isPublic(inside.getModifiers()));
        }
        Check.end("FaceTest");
    }

    private static void methods(Class<?> type) {
        Set<String> due = new TreeSet<>(Set.of(FACE));
        Set<String> got = new TreeSet<>();
        Set<String> names = new TreeSet<>();
        for (Method method : type.getDeclaredMethods()) {
            if (Modifier.isPublic(method.getModifiers())) {
                got.add(text(method));
                names.add(method.getName());
            }
        }
        Check.same("the face is " + got + ", due is " + due, true, due.equals(got));
        for (Method method : type.getDeclaredMethods()) {
            if (!Modifier.isPublic(method.getModifiers())) {
                Check.same("private " + method.getName(), true, Modifier.isPrivate(method.getModifiers()));
                Check.same("name of a public one: " + method.getName(), false, names.contains(method.getName()));
            }
        }
    }

    private static String text(Method method) {
        StringBuilder text = new StringBuilder();
        text.append(method.getReturnType().getName()).append(' ').append(method.getName()).append('(');
        String between = "";
        for (Class<?> parameter : method.getParameterTypes()) {
            text.append(between).append(parameter.getName());
            between = ",";
        }
        return text.append(')').toString();
    }
}
