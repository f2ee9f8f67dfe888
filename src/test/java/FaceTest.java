import java.lang.reflect.Constructor;
import java.lang.reflect.Field;
import java.lang.reflect.Method;
import java.lang.reflect.Modifier;
import java.util.Arrays;
import java.util.Set;
import java.util.TreeSet;

/** The class has the document's public face and nothing else that can be seen (LANGUAGE.md, rules 1, 2 and 5). */
public final class FaceTest {
    private static final Check check = new Check("FaceTest");
    private static final String[] FACE = {
        "boolean type(int)", "void clear()", "int name()", "int put(int)", "int add(int,int,int)",
        "boolean entry(int,int)", "int folder(int)", "int bytes(int,int)", "int raw(int,int,int)",
        "int length(int,int)", "int read(int,int,int)", "int find(int,int,int)",
        "boolean pin(int,int,boolean,boolean)", "int collect(int)", "int blocks(int)",
        "int fetch(int,int,int)", "int retry(int)", "int deliver(int)", "boolean harm(int,int,int)",
        "int message(int,int)", "int waiting()", "int state(int)"
    };

    public static void main(String[] args) {
        Class<?> face = BlockExchange.class;
        check.due("public", Modifier.isPublic(face.getModifiers()), true);
        check.due("final", Modifier.isFinal(face.getModifiers()), true);
        constructors(face);
        methods(face);
        fields(face);
        classesInside(face);
        check.end();
    }

    private static void constructors(Class<?> face) {
        check.due("constructors", face.getDeclaredConstructors().length, 1);
        for (Constructor<?> made : face.getDeclaredConstructors()) {
            check.due("parameters", made.getParameterCount(), 0);
            check.due("public", Modifier.isPublic(made.getModifiers()), true);
        }
    }

    private static void methods(Class<?> face) {
        Set<String> due = new TreeSet<>(Arrays.asList(FACE));
        Set<String> seen = new TreeSet<>();
        Set<String> names = new TreeSet<>();
        for (Method method : face.getDeclaredMethods()) {
            if (!Modifier.isPrivate(method.getModifiers())) {
                seen.add(signature(method));
                names.add(method.getName());
            }
        }
        check.due("the face is " + seen + " and", seen.equals(due), true);
        for (Method method : face.getDeclaredMethods()) {
            if (Modifier.isPrivate(method.getModifiers())) {
                check.due(method + " bears a public name", names.contains(method.getName()), false);
            }
        }
    }

    private static String signature(Method method) {
        StringBuilder text = new StringBuilder();
        text.append(method.getReturnType()).append(' ').append(method.getName()).append('(');
        for (int i = 0; i < method.getParameterCount(); i++) {
            text.append(i == 0 ? "" : ",").append(method.getParameterTypes()[i]);
        }
        return text.append(')').toString();
    }

    private static void fields(Class<?> face) {
        for (Field field : face.getDeclaredFields()) {
            int bits = field.getModifiers();
            check.due(field + " is private", Modifier.isPrivate(bits), true);
            check.due(field + " is static and not final", Modifier.isStatic(bits) && !Modifier.isFinal(bits), false);
        }
    }

    private static void classesInside(Class<?> face) {
        check.due("at most twelve classes", face.getDeclaredClasses().length < 12, true);
        for (Class<?> inside : face.getDeclaredClasses()) {
            int bits = inside.getModifiers();
            check.due(inside + " is static", Modifier.isStatic(bits), true);
            check.due(inside + " can be seen", Modifier.isPublic(bits) || Modifier.isProtected(bits), false);
            for (Field field : inside.getDeclaredFields()) {
                int of = field.getModifiers();
                check.due(field + " is static and not final", Modifier.isStatic(of) && !Modifier.isFinal(of), false);
            }
        }
    }
}
