import java.lang.reflect.Constructor;
import java.lang.reflect.Field;
import java.lang.reflect.Method;
import java.lang.reflect.Modifier;
import java.util.Arrays;
import java.util.Set;
import java.util.TreeSet;

/** The public face is the document's, and nothing else can be seen from outside. */
public final class FaceTest {
    private static final Set<String> METHODS = new TreeSet<>(Arrays.asList(
        "discriminant/1", "classes/0", "reduced/2", "classOf/2", "neutral/0", "product/2", "inverse/1",
        "power/2", "order/1", "roots/1", "squares/0", "gives/2", "givesFirst/2", "all/1", "least/1"));

    private static final Due due = new Due("FaceTest");

    public static void main(String[] args) {
        Class<?> face = QuadraticForms.class;
        due.is("public final class", face.getModifiers(), Modifier.PUBLIC | Modifier.FINAL);
        due.is("nested classes", face.getDeclaredClasses().length, 0);
        due.is("BAD_ARG", QuadraticForms.BAD_ARG, -1000000);
        due.is("NONE", QuadraticForms.NONE, -1000001);
        constructors(face);
        methods(face);
        fields(face);
        due.end();
    }

    private static void constructors(Class<?> face) {
        Constructor<?>[] all = face.getDeclaredConstructors();
        due.is("constructors", all.length, 1);
        due.is("public constructor", all[0].getModifiers(), Modifier.PUBLIC);
        due.is("its parameters", all[0].getParameterCount(), 0);
    }

    private static void methods(Class<?> face) {
        Set<String> open = new TreeSet<>();
        Set<String> names = new TreeSet<>();
        for (Method method : face.getDeclaredMethods()) {
            if (!Modifier.isPrivate(method.getModifiers())) {
                due.is("public " + method, method.getModifiers(), Modifier.PUBLIC);
                due.is("int " + method, method.getReturnType() == int.class ? 1 : 0, 1);
                for (Class<?> type : method.getParameterTypes()) {
                    due.is("int parameter of " + method, type == int.class ? 1 : 0, 1);
                }
                open.add(method.getName() + "/" + method.getParameterCount());
                names.add(method.getName());
            }
        }
        due.is("public methods " + open, open.equals(METHODS) ? 1 : 0, 1);
        for (Method method : face.getDeclaredMethods()) {
            boolean hidden = Modifier.isPrivate(method.getModifiers());
            due.is("name of " + method, hidden && names.contains(method.getName()) ? 1 : 0, 0);
        }
    }

    private static void fields(Class<?> face) {
        for (Field field : face.getDeclaredFields()) {
            int modifiers = field.getModifiers();
            boolean constant = field.getName().equals("BAD_ARG") || field.getName().equals("NONE");
            due.is("public " + field, Modifier.isPublic(modifiers) ? 1 : 0, constant ? 1 : 0);
            due.is("private " + field, Modifier.isPrivate(modifiers) ? 1 : 0, constant ? 0 : 1);
            if (Modifier.isStatic(modifiers)) {
                due.is("final " + field, Modifier.isFinal(modifiers) ? 1 : 0, 1);
                boolean whole = field.getType() == int.class || field.getType() == long.class;
                due.is("int or long " + field, whole ? 1 : 0, 1);
            }
        }
    }
}
