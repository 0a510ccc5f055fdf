import java.lang.reflect.Constructor;
import java.lang.reflect.Field;
import java.lang.reflect.Method;
import java.lang.reflect.Modifier;
import java.util.Set;
import java.util.TreeSet;

/** The public face: the constants and their values, the constructor, the methods, and nothing else. */
public final class FaceTest {
    private static final Check check = new Check();

    private static final Set<String> CONSTANTS = Set.of("int REFUSED = -1", "int SHORT = 1", "int MAGIC = 2",
        "int VERSION = 3", "int POOL = 4", "int INDEX = 5", "int FLAGS = 6", "int NAME = 7", "int TYPE = 8",
        "int TWICE = 9", "int LENGTH = 10", "int REST = 11", "int COUNT = 12", "long NONE = 1000000000000000000");

    private static final Set<String> METHODS = Set.of("int put(long,int)", "int patch(int,int)", "int drop()",
        "int read()", "int place()", "int number(int)", "int flags(int,int)", "int text(int,int,int)",
        "int exceptions(int)", "int exception(int,int,int)", "long constant(int)", "int deprecated(int,int)");

    public static void main(String[] args) throws IllegalAccessException {
        Class<?> face = ClassFileReader.class;
        check.due("modifiers of the class", face.getModifiers(), Modifier.PUBLIC | Modifier.FINAL);
        same("constants", constants(face), CONSTANTS);
        same("methods", methods(face), METHODS);
        check.due("constructors", face.getDeclaredConstructors().length, 1);
        Constructor<?> constructor = face.getDeclaredConstructors()[0];
        check.due("the constructor is public", constructor.getModifiers(), Modifier.PUBLIC);
        check.due("the constructor's parameters", constructor.getParameterCount(), 0);
        check.end();
    }

    private static Set<String> constants(Class<?> face) throws IllegalAccessException {
        Set<String> found = new TreeSet<>();
        for (Field field : face.getDeclaredFields()) {
            if (!Modifier.isPrivate(field.getModifiers())) {
                int wanted = Modifier.PUBLIC | Modifier.STATIC | Modifier.FINAL;
                check.due("modifiers of " + field.getName(), field.getModifiers(), wanted);
                found.add(field.getType() + " " + field.getName() + " = " + field.get(null));
            }
        }
        return found;
    }

    private static Set<String> methods(Class<?> face) {
        Set<String> found = new TreeSet<>();
        for (Method method : face.getDeclaredMethods()) {
            if (!Modifier.isPrivate(method.getModifiers())) {
                check.due("modifiers of " + method.getName(), method.getModifiers(), Modifier.PUBLIC);
                String parameters = "";
                for (Class<?> type : method.getParameterTypes()) {
                    parameters += (parameters.isEmpty() ? "" : ",") + type;
                }
                found.add(method.getReturnType() + " " + method.getName() + "(" + parameters + ")");
            }
        }
        return found;
    }

    private static void same(String what, Set<String> found, Set<String> wanted) {
        check.due(what + " are " + found, found.equals(wanted) ? 1 : 0, 1);
    }
}
