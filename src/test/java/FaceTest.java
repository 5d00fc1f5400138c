import java.lang.reflect.Constructor;
import java.lang.reflect.Field;
import java.lang.reflect.Method;
import java.lang.reflect.Modifier;
import java.util.TreeSet;

/** The class shows the document's face, and nothing besides. */
public final class FaceTest {
    private static final String[] FACE = {
        "int setBottle(int,int,int,int) IllegalArgumentException IllegalStateException",
        "int setHull(int,int,int) IllegalArgumentException IllegalStateException",
        "int step(int,int) IllegalArgumentException IllegalStateException",
        "int yard(int,int) IndexOutOfBoundsException IllegalArgumentException IllegalStateException",
        "int lead(int,int,int) IndexOutOfBoundsException IllegalArgumentException IllegalStateException",
        "boolean enter()",
        "boolean leave()",
        "int pull(int) IndexOutOfBoundsException IllegalStateException",
        "int glue(int) IndexOutOfBoundsException IllegalStateException",
        "boolean cross(int,int) IndexOutOfBoundsException",
        "int mast(int,int) IndexOutOfBoundsException",
        "int thread(int,int) IndexOutOfBoundsException",
        "int ship(int) IndexOutOfBoundsException",
        "int count(int) IndexOutOfBoundsException",
        "int pass(int) IllegalArgumentException",
        "int fewest()",
        "int first()",
        "int least(int) IndexOutOfBoundsException",
        "int falls()",
        "double mean()",
        "long digest()",
    };

    public static void main(String[] args) {
        Check check = new Check("FaceTest");
        TreeSet<String> due = new TreeSet<>();
        TreeSet<String> names = new TreeSet<>();
        for (String line : FACE) {
            due.add(line);
            names.add(line.substring(line.indexOf(' ') + 1, line.indexOf('(')));
        }
        TreeSet<String> found = new TreeSet<>();
        for (Method method : BottleShip.class.getDeclaredMethods()) {
            if (Modifier.isPrivate(method.getModifiers())) {
                check.is(method.getName() + " is private with a public name",
                        names.contains(method.getName()), false);
            } else {
                check.is(method.getName() + " is public, not static",
                        method.getModifiers(), Modifier.PUBLIC);
                found.add(written(method));
            }
        }
        check.is("the methods", found.toString(), due.toString());
        for (Field field : BottleShip.class.getDeclaredFields()) {
            check.is(field.getName() + " is private", Modifier.isPrivate(field.getModifiers()), true);
        }
        Constructor<?>[] makers = BottleShip.class.getDeclaredConstructors();
        check.is("constructors", makers.length, 1);
        check.is("the constructor", makers[0].toString(), "public BottleShip()");
        check.is("the class", BottleShip.class.getModifiers(), Modifier.PUBLIC | Modifier.FINAL);
        check.end();
    }

    private static String written(Method method) {
        StringBuilder line = new StringBuilder();
        line.append(method.getReturnType().getSimpleName()).append(' ').append(method.getName());
        String comma = "(";
        for (Class<?> type : method.getParameterTypes()) {
            line.append(comma).append(type.getSimpleName());
            comma = ",";
        }
        line.append(comma.equals("(") ? "()" : ")");
        for (Class<?> type : method.getExceptionTypes()) {
            line.append(' ').append(type.getSimpleName());
        }
        return line.toString();
    }
}
