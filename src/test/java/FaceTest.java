import java.lang.reflect.Constructor;
import java.lang.reflect.Field;
import java.lang.reflect.Method;
import java.lang.reflect.Modifier;
import java.util.ArrayList;
import java.util.Arrays;
import java.util.List;
import java.util.TreeSet;

/** The public face of the document, and rule 1 of LANGUAGE.md: nothing else can be seen. */
public final class FaceTest {
    private static final String[] FACE = {
        "int bound(long)", "int cylinder(int)", "int idle(long)", "int limp(boolean)", "int monitor(long)",
        "int sensor(int,int)", "int split(long,int)", "int step(long,long,long)", "int table(int,int,int,long)",
        "int wish(int,long)", "long period(long)", "long sum(int)", "long torque()", "long value(int)"
    };

    public static void main(String[] args) throws Exception {
        Class<?> face = TorqueRows.class;
        Due.is("modifiers", face.getModifiers(), Modifier.PUBLIC | Modifier.FINAL);
        Constructor<?>[] made = face.getDeclaredConstructors();
        Due.is("constructors", made.length, 1);
        Due.isTrue("a public constructor", Modifier.isPublic(made[0].getModifiers()));
        Due.is("its parameters", made[0].getParameterCount(), 0);
        looksAtMethods(face);
        for (Field field : face.getDeclaredFields()) {
            Due.isTrue("private " + field.getName(), Modifier.isPrivate(field.getModifiers()));
        }
        Class<?>[] thrown = face.getMethod("period", long.class).getExceptionTypes();
        Due.isTrue("period throws", Arrays.equals(thrown, new Class<?>[] {ArithmeticException.class}));
        Due.end();
    }

    private static void looksAtMethods(Class<?> face) {
        List<String> seen = new ArrayList<>();
        TreeSet<String> publicNames = new TreeSet<>();
        TreeSet<String> privateNames = new TreeSet<>();
        for (Method method : face.getDeclaredMethods()) {
            if (Modifier.isPrivate(method.getModifiers())) {
                privateNames.add(method.getName());
            } else {
                seen.add(told(method));
                publicNames.add(method.getName());
                Due.isTrue("public " + method.getName(), Modifier.isPublic(method.getModifiers()));
                Due.isTrue("no static " + method.getName(), !Modifier.isStatic(method.getModifiers()));
            }
        }
        for (Class<?> inside : face.getDeclaredClasses()) {
            Due.isTrue("static " + inside.getName(), Modifier.isStatic(inside.getModifiers()));
            for (Method method : inside.getDeclaredMethods()) {
                privateNames.add(method.getName());
            }
        }
        String[] names = seen.toArray(new String[0]);
        Arrays.sort(names);
        Due.isTrue("the methods " + Arrays.toString(names), Arrays.equals(names, FACE));
        privateNames.retainAll(publicNames);
        Due.isTrue("private methods with a public name " + privateNames, privateNames.isEmpty());
    }

    private static String told(Method method) {
        StringBuilder parameters = new StringBuilder();
        for (Class<?> type : method.getParameterTypes()) {
            parameters.append(parameters.length() == 0 ? "" : ",").append(type.getName());
        }
        return method.getReturnType().getName() + " " + method.getName() + "(" + parameters + ")";
    }
}
