import java.lang.reflect.Constructor;
import java.lang.reflect.Field;
import java.lang.reflect.Method;
import java.lang.reflect.Modifier;
import java.util.ArrayList;
import java.util.List;
import java.util.TreeSet;

/** The public face is that of the document, and nothing beside it. */
public final class FaceTest {
    private static final String BOUNDS = " throws IndexOutOfBoundsException";
    private static final String ARGUMENT = " IllegalArgumentException";
    private static final String STATE = " IllegalStateException";

    private static final String[] METHODS = {
        "int stroke(int int)" + BOUNDS + ARGUMENT + STATE,
        "int lift()",
        "int letter() throws" + STATE,
        "int strokeOf(int int)" + BOUNDS,
        "int pupil(int int boolean)" + BOUNDS + ARGUMENT + STATE,
        "int print(int boolean int)" + BOUNDS + ARGUMENT,
        "int sheets(int boolean)" + BOUNDS,
        "int write(int int)" + BOUNDS + STATE,
        "int slips(int int)" + BOUNDS + ARGUMENT,
        "int orderAnew(int)" + BOUNDS,
        "int mark(int int int)" + BOUNDS + ARGUMENT + STATE,
        "int grade(int)" + BOUNDS,
        "int lacks(int)" + BOUNDS,
        "int takeOut(int)" + BOUNDS + STATE,
        "int show(int)" + BOUNDS + STATE,
        "int vote(int int int)" + BOUNDS + ARGUMENT + STATE,
        "int worth(int)" + BOUNDS,
        "int place(int)" + BOUNDS,
        "int at(int)" + BOUNDS,
    };

    private static final String[] CONSTANTS = {
        "NONE=-1", "NOTHING=-9999", "MISSING=0", "EXTRA=1", "TURNED=2", "ORDER=3", "RULING=4",
    };

    public static void main(String[] args) throws IllegalAccessException {
        checkClass();
        checkMethods();
        checkConstants();
        Check.end("FaceTest");
    }

    private static void checkClass() {
        int modifiers = InkHall.class.getModifiers();
        Check.that("the class is public and final",
                Modifier.isPublic(modifiers) && Modifier.isFinal(modifiers));
        Check.that("the class has no package", InkHall.class.getPackageName().isEmpty());
        Constructor<?>[] made = InkHall.class.getDeclaredConstructors();
        Check.that("there is one constructor, public and without arguments", made.length == 1
                && Modifier.isPublic(made[0].getModifiers()) && made[0].getParameterCount() == 0
                && made[0].getExceptionTypes().length == 0);
    }

    private static void checkMethods() {
        TreeSet<String> found = new TreeSet<>();
        TreeSet<String> names = new TreeSet<>();
        List<Method> hidden = new ArrayList<>();
        for (Method method : InkHall.class.getDeclaredMethods()) {
            if (Modifier.isPrivate(method.getModifiers())) {
                hidden.add(method);
                continue;
            }
            found.add(told(method));
            names.add(method.getName());
            Check.that(method.getName() + " is public, and no static one",
                    Modifier.isPublic(method.getModifiers()) && !Modifier.isStatic(method.getModifiers()));
        }
        Check.that("the methods are " + found, found.equals(new TreeSet<>(List.of(METHODS))));
        for (Method method : hidden) {
            Check.that("a private method is named " + method.getName(), !names.contains(method.getName()));
        }
    }

    private static String told(Method method) {
        StringBuilder text = new StringBuilder(method.getReturnType().getSimpleName());
        text.append(' ').append(method.getName()).append('(');
        String gap = "";
        for (Class<?> type : method.getParameterTypes()) {
            text.append(gap).append(type.getSimpleName());
            gap = " ";
        }
        text.append(')');
        gap = " throws ";
        for (Class<?> type : method.getExceptionTypes()) {
            text.append(gap).append(type.getSimpleName());
            gap = " ";
        }
        return text.toString();
    }

    private static void checkConstants() throws IllegalAccessException {
        TreeSet<String> found = new TreeSet<>();
        for (Field field : InkHall.class.getDeclaredFields()) {
            int modifiers = field.getModifiers();
            if (Modifier.isPrivate(modifiers)) {
                continue;
            }
            Check.that(field.getName() + " is public static final int", Modifier.isPublic(modifiers)
                    && Modifier.isStatic(modifiers) && Modifier.isFinal(modifiers)
                    && field.getType() == int.class);
            found.add(field.getName() + "=" + field.getInt(null));
        }
        Check.that("the constants are " + found, found.equals(new TreeSet<>(List.of(CONSTANTS))));
    }
}
