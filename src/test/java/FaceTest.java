import java.lang.reflect.Constructor;
import java.lang.reflect.Field;
import java.lang.reflect.Method;
import java.lang.reflect.Modifier;
import java.util.Set;
import java.util.TreeSet;

/** The public face: what the document lists, and nothing else that can be seen from outside. */
public final class FaceTest {
    private static final String[] FACE = {
        "boolean type(char)", "void create(int)", "void delete()", "void enter()", "int open()",
        "boolean close(int)", "boolean seek(int,int)", "long read(int,int)", "int write(int,long,int)",
        "int list(int,int)", "boolean cut(int)", "boolean power()", "int repair()", "int octet(int,int)",
        "boolean poke(int,int,int)", "int look(int)"};

    public static void main(String[] args) {
        Set<String> seen = new TreeSet<>();
        for (Method method : FileVolume.class.getDeclaredMethods()) {
            if (!Modifier.isPrivate(method.getModifiers()) && !method.isSynthetic()) {
                Rig.due("public", Modifier.isPublic(method.getModifiers()), true);
                seen.add(signature(method));
            }
        }
        Rig.due("methods", seen, new TreeSet<>(Set.of(FACE)));
        for (Field field : FileVolume.class.getDeclaredFields()) {
            boolean isHidden = field.isSynthetic() || Modifier.isPrivate(field.getModifiers());
            Rig.due("field " + field.getName(), isHidden, true);
        }
        Constructor<?>[] constructors = FileVolume.class.getDeclaredConstructors();
        Rig.due("constructors", constructors.length, 1);
        Rig.due("without parameters", constructors[0].getParameterCount(), 0);
        Rig.due("a final class", Modifier.isFinal(FileVolume.class.getModifiers()), true);
        noPrivateMethodBearsAPublicName();
        Rig.end();
    }

    private static String signature(Method method) {
        StringBuilder text = new StringBuilder(method.getReturnType().getName());
        text.append(' ').append(method.getName()).append('(');
        for (int i = 0; i < method.getParameterCount(); i++) {
            text.append(i == 0 ? "" : ",").append(method.getParameterTypes()[i].getName());
        }
        return text.append(')').toString();
    }

    private static void noPrivateMethodBearsAPublicName() {
        Set<String> names = new TreeSet<>();
        for (String signature : FACE) {
            names.add(signature.substring(signature.indexOf(' ') + 1, signature.indexOf('(')));
        }
        for (Method method : FileVolume.class.getDeclaredMethods()) {
            boolean isPrivate = Modifier.isPrivate(method.getModifiers());
            Rig.due(method.getName(), isPrivate && names.contains(method.getName()), false);
        }
    }
}
