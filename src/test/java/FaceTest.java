import java.lang.reflect.Constructor;
import java.lang.reflect.Field;
import java.lang.reflect.Method;
import java.lang.reflect.Modifier;
import java.util.Set;
import java.util.TreeSet;

/** The public face is the document's, and nothing else of the class is to be seen from outside. */
public final class FaceTest {
    private static final Set<String> FACE = Set.of(
        "NONE int", "DottedMaps(int)",
        "int raise(int,int)", "int write(int,int,int)", "int add(int,int,int)", "int count(int,int,int)",
        "int clear(int,int,int)", "int erase(int,int)", "boolean sees(int,int,int)", "int sum(int,int)",
        "int value(int,int,int)", "int keys(int,int)", "int gossip(int,int)", "int deliver(int)",
        "boolean lose(int,boolean)", "int collect(int)", "int checkpoint(int)", "boolean power(int,boolean)",
        "boolean fail(int,int)", "int replica(int,int)", "int known(int,int,int)", "int message(int,int)");

    public static void main(String[] args) {
        TreeSet<String> seen = new TreeSet<>();
        for (Field field : DottedMaps.class.getDeclaredFields()) {
            if (!Modifier.isPrivate(field.getModifiers())) {
                seen.add(field.getName() + " " + field.getType().getSimpleName());
            }
        }
        for (Constructor<?> constructor : DottedMaps.class.getDeclaredConstructors()) {
            seen.add(DottedMaps.class.getName() + types(constructor.getParameterTypes()));
        }
        TreeSet<String> hidden = new TreeSet<>();
        TreeSet<String> names = new TreeSet<>();
        for (Method method : DottedMaps.class.getDeclaredMethods()) {
            if (Modifier.isPrivate(method.getModifiers())) {
                hidden.add(method.getName());
            } else {
                names.add(method.getName());
                seen.add(method.getReturnType() + " " + method.getName() + types(method.getParameterTypes()));
            }
        }
        hidden.retainAll(names);
        boolean right = seen.equals(new TreeSet<>(FACE)) && hidden.isEmpty()
            && Modifier.isFinal(DottedMaps.class.getModifiers()) && Modifier.isPublic(DottedMaps.class.getModifiers());
        if (!right) {
            System.out.println("the face is " + seen + ", due is " + new TreeSet<>(FACE)
                + "; private methods with a public name: " + hidden);
            System.exit(1);
        }
        System.out.println("the face is the document's");
    }

    private static String types(Class<?>[] types) {
        StringBuilder text = new StringBuilder("(");
        for (Class<?> type : types) {
            text.append(text.length() > 1 ? "," : "").append(type);
        }
        return text.append(")").toString();
    }
}
