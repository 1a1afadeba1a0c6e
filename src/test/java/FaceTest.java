import java.lang.reflect.Constructor;
import java.lang.reflect.Field;
import java.lang.reflect.Method;
import java.lang.reflect.Modifier;
import java.util.Set;
import java.util.TreeSet;

/** The members of the class: those of the document, with what they throw, and only private ones beside. */
public final class FaceTest {
    private static final String INDEX = " IndexOutOfBoundsException";
    private static final String ARGUMENT = " IllegalArgumentException";
    private static final String STATE = " IllegalStateException";

    private static final String[] FACE = {
        "int function()" + STATE,
        "int step(int,int)" + INDEX + ARGUMENT + STATE,
        "int unstep(int)" + INDEX + STATE,
        "int hint(int,int,int)" + INDEX + ARGUMENT,
        "int adopt(int)" + INDEX,
        "boolean type(int,boolean)" + INDEX + STATE,
        "int stepAt(int,int)" + INDEX,
        "int ofFunction(int,int)" + INDEX + ARGUMENT,
        "int many(int)" + ARGUMENT,
        "int budget(int)" + ARGUMENT,
        "int run(int,int,int)" + INDEX + ARGUMENT,
        "int latest(int)" + ARGUMENT,
        "int counted(int,int)" + INDEX,
        "int blamed(int)" + INDEX,
        "double meanCost()",
        "int gain(int)" + INDEX,
        "int next()",
        "int migrate(int)" + ARGUMENT,
        "int wouldBlame(int,int,int)" + INDEX + ARGUMENT,
        "int wouldCost(int,int,int,int)" + INDEX + ARGUMENT,
        "int untyped(int,int,int)" + INDEX + ARGUMENT,
        "int tollAtBest()",
        "long digest()",
    };

    public static void main(String[] args) {
        Class<?> station = TypecheckStation.class;
        Due.is("public and final", station.getModifiers(), Modifier.PUBLIC | Modifier.FINAL);
        Due.is("no package", station.getPackageName().length(), 0);
        Set<String> missing = new TreeSet<>(Set.of(FACE));
        Set<String> publicNames = new TreeSet<>();
        Set<String> privateNames = new TreeSet<>();
        for (Method method : station.getDeclaredMethods()) {
            if (Modifier.isPrivate(method.getModifiers())) {
                privateNames.add(method.getName());
            } else {
                publicNames.add(method.getName());
                Due.is("public: " + method, Modifier.isPublic(method.getModifiers()), true);
                Due.is("of the face: " + told(method), missing.remove(told(method)), true);
            }
        }
        Due.is("missing: " + missing, missing.size(), 0);
        privateNames.retainAll(publicNames);
        Due.is("private ones named as public ones: " + privateNames, privateNames.size(), 0);
        fieldsAndConstructors(station);
        classesInside(station, publicNames);
        Due.end();
    }

    private static String told(Method method) {
        StringBuilder text = new StringBuilder();
        text.append(method.getReturnType().getName()).append(' ').append(method.getName()).append('(');
        String comma = "";
        for (Class<?> parameter : method.getParameterTypes()) {
            text.append(comma).append(parameter.getName());
            comma = ",";
        }
        text.append(')');
        for (Class<?> thrown : method.getExceptionTypes()) {
            text.append(' ').append(thrown.getSimpleName());
        }
        return text.toString();
    }

    private static void fieldsAndConstructors(Class<?> station) {
        for (Field field : station.getDeclaredFields()) {
            Due.is("private: " + field, Modifier.isPrivate(field.getModifiers()), true);
            boolean isFinal = Modifier.isFinal(field.getModifiers());
            Due.is("final, if static: " + field, !Modifier.isStatic(field.getModifiers()) || isFinal, true);
        }
        Constructor<?>[] constructors = station.getDeclaredConstructors();
        Due.is("one constructor", constructors.length, 1);
        Due.is("public", Modifier.isPublic(constructors[0].getModifiers()), true);
        Due.is("without parameters", constructors[0].getParameterCount(), 0);
        Due.is("that throws nothing", constructors[0].getExceptionTypes().length, 0);
    }

    private static void classesInside(Class<?> station, Set<String> publicNames) {
        Class<?>[] inside = station.getDeclaredClasses();
        Due.is("some twelve classes at most", inside.length < 12, true);
        for (Class<?> one : inside) {
            int modifiers = one.getModifiers();
            Due.is("static: " + one, Modifier.isStatic(modifiers), true);
            Due.is("not public: " + one, Modifier.isPublic(modifiers) || Modifier.isProtected(modifiers), false);
            Due.is("some twenty fields at most: " + one, one.getDeclaredFields().length <= 20, true);
            for (Method method : one.getDeclaredMethods()) {
                Due.is("named as a public one: " + method, publicNames.contains(method.getName()), false);
            }
        }
    }
}
