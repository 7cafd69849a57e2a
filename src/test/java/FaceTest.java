import java.lang.reflect.Constructor;
import java.lang.reflect.Field;
import java.lang.reflect.Method;
import java.lang.reflect.Modifier;
import java.util.Set;
import java.util.TreeSet;

/** The document's public face, and what rules 1, 5 and 11 of LANGUAGE.md ask of the members. */
final class FaceTest {
    private static final Set<String> FACE = Set.of(
            "int user()", "int request(int,boolean)", "int wake(int,boolean)", "int step(long)",
            "int init(int,int,boolean)", "int block(int)", "int write(int,int,byte)", "int cut(long)", "int start()",
            "byte kept(int,int)", "int bank(boolean)", "long time(int)", "int order(int)");

    public static void main(String[] args) throws NoSuchMethodException {
        classIsAsDue();
        methodsAreAsDue();
        fieldsAreAsDue();
        classesInsideAreAsDue();
        Due.end();
    }

    private static void classIsAsDue() throws NoSuchMethodException {
        Class<?> c = StartSleep.class;
        Due.isTrue("public and final", Modifier.isPublic(c.getModifiers()) && Modifier.isFinal(c.getModifiers()));
        Due.isTrue("without a package", c.getPackageName().isEmpty());
        Constructor<?>[] all = c.getDeclaredConstructors();
        Due.isTrue("one public constructor without parameters",
                all.length == 1 && Modifier.isPublic(all[0].getModifiers()) && all[0].getParameterCount() == 0);
        Class<?>[] thrown = c.getMethod("kept", int.class, int.class).getExceptionTypes();
        Due.isTrue("kept() tells what it throws",
                thrown.length == 1 && thrown[0] == ArrayIndexOutOfBoundsException.class);
    }

    private static void methodsAreAsDue() {
        Set<String> seen = new TreeSet<>();
        Set<String> names = new TreeSet<>();
        for (Method m : StartSleep.class.getDeclaredMethods()) {
            if (Modifier.isPublic(m.getModifiers())) {
                seen.add(told(m));
                names.add(m.getName());
            }
        }
        Due.isTrue("the public methods are those of the document: " + seen, seen.equals(FACE));
        for (Method m : StartSleep.class.getDeclaredMethods()) {
            boolean isPrivate = Modifier.isPrivate(m.getModifiers());
            Due.isTrue(m + " is public or private", isPrivate || Modifier.isPublic(m.getModifiers()));
            Due.isTrue(m + " bears no public name", !isPrivate || !names.contains(m.getName()));
            Due.isTrue(m + " is not static, when public", isPrivate || !Modifier.isStatic(m.getModifiers()));
        }
    }

    private static String told(Method m) {
        StringBuilder text = new StringBuilder(m.getReturnType().getName()).append(' ').append(m.getName()).append('(');
        String comma = "";
        for (Class<?> type : m.getParameterTypes()) {
            text.append(comma).append(type.getName());
            comma = ",";
        }
        return text.append(')').toString();
    }

    private static void fieldsAreAsDue() {
        int own = 0;
        for (Field f : StartSleep.class.getDeclaredFields()) {
            Due.isTrue(f + " is private", Modifier.isPrivate(f.getModifiers()));
            boolean isStatic = Modifier.isStatic(f.getModifiers());
            Due.isTrue(f + " is final, when static", !isStatic || Modifier.isFinal(f.getModifiers()));
            own += isStatic ? 0 : 1;
        }
        Due.isTrue("at most twenty fields", own <= 20);
    }

    private static void classesInsideAreAsDue() {
        Class<?>[] inside = StartSleep.class.getDeclaredClasses();
        Due.isTrue("at most twelve classes", inside.length < 12);
        for (Class<?> c : inside) {
            Due.isTrue(c + " is static", Modifier.isStatic(c.getModifiers()));
            Due.isTrue(c + " is not public", !Modifier.isPublic(c.getModifiers()));
            for (Field f : c.getDeclaredFields()) {
                boolean isStatic = Modifier.isStatic(f.getModifiers());
                Due.isTrue(f + " is final, when static", !isStatic || Modifier.isFinal(f.getModifiers()));
            }
        }
    }
}
