import java.lang.reflect.Constructor;
import java.lang.reflect.Field;
import java.lang.reflect.Method;
import java.lang.reflect.Modifier;
import java.util.ArrayList;
import java.util.Arrays;
import java.util.Collections;
import java.util.List;

/** The public face of the document, and rule 1 of LANGUAGE.md about it. */
public final class FaceTest {
    private static final String ARGUMENT = " throws IllegalArgumentException";
    private static final String STATE = ARGUMENT + " IllegalStateException";
    private static final String INDEX = ARGUMENT + " IndexOutOfBoundsException";
    private static final String[] FACE = {
        "int add(int, int, int, long, long, int)" + STATE,
        "int remove(int, int)" + INDEX,
        "int setDefault(int, int)" + ARGUMENT,
        "int setFrequency(int, int)" + ARGUMENT,
        "int rules(int)" + ARGUMENT,
        "int hider(int, int)" + INDEX,
        "int compile(int)" + ARGUMENT,
        "boolean isCompiled()",
        "int test(int, int)" + STATE,
        "int cost(int)" + STATE,
        "int worst(int)" + STATE,
        "int judge(int, long, long)" + STATE,
        "int judgeByRules(int, long, long)" + ARGUMENT,
        "int path(int, long, long)" + STATE,
        "int actionOf(int, int, long, long)" + ARGUMENT,
    };

    public static void main(String[] args) {
        Class<?> face = SyscallFilter.class;
        Due.same("modifiers of the class", face.getModifiers(), Modifier.PUBLIC | Modifier.FINAL);
        constructors(face);
        methods(face);
        for (Field field : face.getDeclaredFields()) {
            Due.yes("private " + field, Modifier.isPrivate(field.getModifiers()));
        }
        for (Class<?> inside : face.getDeclaredClasses()) {
            Due.yes("static " + inside, Modifier.isStatic(inside.getModifiers()));
            noNameOfTheFace(inside.getDeclaredMethods());
        }
        Due.end();
    }

    private static void constructors(Class<?> face) {
        Constructor<?>[] made = face.getDeclaredConstructors();
        Due.same("constructors", made.length, 1);
        Due.same("modifiers of the constructor", made[0].getModifiers(), Modifier.PUBLIC);
        Due.same("parameters of the constructor", made[0].getParameterCount(), 0);
    }

    private static void methods(Class<?> face) {
        List<String> told = new ArrayList<>();
        List<Method> hidden = new ArrayList<>();
        for (Method method : face.getDeclaredMethods()) {
            if (Modifier.isPrivate(method.getModifiers())) {
                hidden.add(method);
            } else {
                Due.same("modifiers of " + method, method.getModifiers(), Modifier.PUBLIC);
                told.add(toldAs(method));
            }
        }
        List<String> want = new ArrayList<>(Arrays.asList(FACE));
        Collections.sort(want);
        Collections.sort(told);
        Due.yes(told + " is " + want, told.equals(want));
        noNameOfTheFace(hidden.toArray(new Method[0]));
    }

    private static String toldAs(Method method) {
        StringBuilder text = new StringBuilder();
        text.append(method.getReturnType().getSimpleName()).append(' ').append(method.getName()).append('(');
        String between = "";
        for (Class<?> parameter : method.getParameterTypes()) {
            text.append(between).append(parameter.getSimpleName());
            between = ", ";
        }
        text.append(')');
        String before = " throws ";
        for (Class<?> thrown : method.getExceptionTypes()) {
            text.append(before).append(thrown.getSimpleName());
            before = " ";
        }
        return text.toString();
    }

    private static void noNameOfTheFace(Method[] own) {
        for (Method method : own) {
            for (String told : FACE) {
                Due.no(method + " bears a name of the face", told.contains(" " + method.getName() + "("));
            }
        }
    }
}
