import java.lang.reflect.Constructor;
import java.lang.reflect.Field;
import java.lang.reflect.Member;
import java.lang.reflect.Method;
import java.lang.reflect.Modifier;
import java.util.Arrays;
import java.util.TreeSet;

/** The class has the document's face and nothing beside it. */
public final class FaceTest {
    private static final String[] FACE = {
        "int predicate(int)", "int mode(int,int)", "void clear()", "boolean put(int)", "int add(int,int,int)",
        "boolean given(int,boolean)", "boolean wanted(int,boolean)", "int order()", "int stuck()",
        "int part(int,int)", "int node(int,int)", "boolean compared(int,int)", "boolean ground(int,int)",
        "boolean outer(int,int)",
    };
    private static final Due DUE = new Due();

    public static void main(String[] args) {
        Class<GoalOrder> type = GoalOrder.class;
        DUE.is("public and final", type.getModifiers(), Modifier.PUBLIC | Modifier.FINAL);
        methods(type);
        fields(type);
        Constructor<?>[] constructors = type.getDeclaredConstructors();
        DUE.is("one constructor", constructors.length, 1);
        DUE.is("a public one", Modifier.isPublic(constructors[0].getModifiers()), true);
        DUE.is("without parameters", constructors[0].getParameterCount(), 0);
        for (Class<?> inner : type.getDeclaredClasses()) {
            int seen = inner.getModifiers() & (Modifier.PUBLIC | Modifier.PROTECTED);
            DUE.is(inner + " can't be seen", seen, 0);
            DUE.is(inner + " is static", Modifier.isStatic(inner.getModifiers()), true);
            fields(inner);
        }
        DUE.end();
    }

    private static void methods(Class<?> type) {
        TreeSet<String> face = new TreeSet<>(Arrays.asList(FACE));
        TreeSet<String> names = new TreeSet<>();
        for (String method : FACE) {
            names.add(method.substring(method.indexOf(' ') + 1, method.indexOf('(')));
        }
        for (Method method : type.getDeclaredMethods()) {
            if (isHidden(method)) {
                DUE.is(method + " bears a name of the face", names.contains(method.getName()), false);
                continue;
            }
            String parameters = Arrays.toString(method.getParameterTypes()).replaceAll("[\\[\\] ]", "");
            String told = method.getReturnType() + " " + method.getName() + "(" + parameters + ")";
            DUE.is(told + " is of the face", face.remove(told), true);
            DUE.is(told + " is public", Modifier.isPublic(method.getModifiers()), true);
        }
        DUE.is("missing: " + face, face.size(), 0);
    }

    private static void fields(Class<?> type) {
        for (Field field : type.getDeclaredFields()) {
            boolean isFinal = Modifier.isFinal(field.getModifiers());
            DUE.is(field + " is no static state", Modifier.isStatic(field.getModifiers()) && !isFinal, false);
            if (type == GoalOrder.class) {
                DUE.is(field + " is hidden", isHidden(field), !field.getName().equals("NONE"));
            }
        }
    }

    private static boolean isHidden(Member member) {
        return Modifier.isPrivate(member.getModifiers());
    }
}
