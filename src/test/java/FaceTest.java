import java.lang.reflect.Constructor;
import java.lang.reflect.Field;
import java.lang.reflect.Method;
import java.lang.reflect.Modifier;
import java.util.Set;
import java.util.TreeSet;

/** The public face, and what LANGUAGE.md's rules 1, 5 and 11 ask of members: no more, no less. */
public final class FaceTest {
    private static final Due T = new Due();
    private static final Set<String> FACE = Set.of(
            "int letter(int)", "int blank()", "int fault()", "int station()", "int about(int,int)", "int as(int,int)",
            "int crime(int,int)", "int confess(int,int)", "int recant(int)", "int alter(int,boolean)",
            "int match(int)", "int stitches()", "int tried(int,int,boolean)", "int forget()",
            "int weeks(int,int,int)", "int image()", "int restore()", "int count(int)", "long digest()");

    public static void main(String[] args) {
        constants();
        members();
        inside();
        T.end();
    }

    private static void constants() {
        T.due("NONE", ConfessBySize.NONE, -1);
        T.due("UNKNOWN", ConfessBySize.UNKNOWN, -101);
        T.due("OUTSIDE", ConfessBySize.OUTSIDE, -102);
        T.due("STATE", ConfessBySize.STATE, -103);
        T.due("FULL", ConfessBySize.FULL, -104);
    }

    private static String told(Method method) {
        StringBuilder text = new StringBuilder(method.getReturnType() + " " + method.getName() + "(");
        for (Class<?> type : method.getParameterTypes()) {
            if (text.charAt(text.length() - 1) != '(') text.append(',');
            text.append(type);
        }
        return text.append(')').toString();
    }

    private static void members() {
        Set<String> found = new TreeSet<>();
        Set<String> names = new TreeSet<>();
        for (Method method : ConfessBySize.class.getDeclaredMethods()) {
            if (Modifier.isPrivate(method.getModifiers())) continue;
            T.due("public: " + method, Modifier.isPublic(method.getModifiers()));
            found.add(told(method));
            names.add(method.getName());
        }
        T.due("the methods are the document's: " + found, found.equals(FACE));
        for (Method method : ConfessBySize.class.getDeclaredMethods()) {
            boolean isPrivate = Modifier.isPrivate(method.getModifiers());
            T.due("no private one by that name: " + method, !isPrivate || !names.contains(method.getName()));
        }
        int constants = 0;
        for (Field field : ConfessBySize.class.getDeclaredFields()) {
            int is = field.getModifiers();
            if (Modifier.isStatic(is)) T.due("final: " + field, Modifier.isFinal(is));
            if (Modifier.isPrivate(is)) continue;
            T.due("a constant: " + field, Modifier.isPublic(is) && Modifier.isStatic(is));
            constants++;
        }
        T.due("five constants", constants, 5);
        Constructor<?>[] constructors = ConfessBySize.class.getDeclaredConstructors();
        T.due("one constructor", constructors.length, 1);
        T.due("it is public", Modifier.isPublic(constructors[0].getModifiers()));
        T.due("it takes nothing", constructors[0].getParameterCount(), 0);
        T.due("the class is final", Modifier.isFinal(ConfessBySize.class.getModifiers()));
        T.due("no package", ConfessBySize.class.getPackageName().isEmpty());
    }

    private static void inside() {
        Class<?>[] classes = ConfessBySize.class.getDeclaredClasses();
        T.due("some twelve classes", classes.length <= 12);
        for (Class<?> one : classes) {
            int is = one.getModifiers();
            T.due("static, not public: " + one, Modifier.isStatic(is) && !Modifier.isPublic(is));
            T.due("not protected: " + one, !Modifier.isProtected(is));
            for (Method method : one.getDeclaredMethods()) {
                T.due("at most seven parameters: " + method, method.getParameterCount() <= 7);
            }
        }
    }
}
