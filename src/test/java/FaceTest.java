import java.lang.reflect.Constructor;
import java.lang.reflect.Field;
import java.lang.reflect.Method;
import java.lang.reflect.Modifier;
import java.util.Arrays;
import java.util.Set;
import java.util.TreeSet;

/** The face of the class is the document's, and nothing else of it can be seen from outside. */
public final class FaceTest {
    private static final Set<String> DUE = new TreeSet<>(Arrays.asList(
        "int NONE", "PageVault(int)",
        "int make()", "boolean drop(int)", "int fork(int)", "int map(int, int, int)",
        "boolean protect(int, int, int)", "int grow(int, int)", "int size(int)", "int load(int, int, int)",
        "int fetch(int, int)", "boolean store(int, int, int, int)", "int trap()", "int out(int, int, int)",
        "int in(int, int, int)", "int text(int, int, int)", "boolean put(int, int)", "int at(int)", "int free()",
        "int flags(int, int)", "int owners(int, int)"));

    private static int wrong = 0;

    private static void check(boolean holds, String what) {
        if (!holds) {
            wrong++;
            System.out.println(what);
        }
    }

    public static void main(String[] args) {
        Class<?> face = PageVault.class;
        check(face.getModifiers() == (Modifier.PUBLIC | Modifier.FINAL), "the class is not just public and final");
        check(face.getSuperclass() == Object.class && face.getInterfaces().length == 0, "the class has a class above it");
        Set<String> seen = seenFromOutside(face);
        check(seen.equals(DUE), "the face is " + seen + ", due is " + DUE);
        check(!methodNamesHidden(face).removeAll(methodNamesOf(DUE)), "a private method bears the name of a public one");
        for (Class<?> inside : face.getDeclaredClasses()) {
            int modifiers = inside.getModifiers();
            check(Modifier.isStatic(modifiers), inside + " is not static");
            check(!Modifier.isPublic(modifiers) && !Modifier.isProtected(modifiers), inside + " can be seen");
        }
        checkStaticFields(face);
        System.out.println(wrong == 0 ? "the face is as due" : wrong + " things are not as due");
        if (wrong != 0) {
            System.exit(1);
        }
    }

    private static Set<String> seenFromOutside(Class<?> face) {
        Set<String> seen = new TreeSet<>();
        for (Field field : face.getDeclaredFields()) {
            if (!Modifier.isPrivate(field.getModifiers())) {
                check(field.getModifiers() == (Modifier.PUBLIC | Modifier.STATIC | Modifier.FINAL), field + " is no constant");
                seen.add(field.getType() + " " + field.getName());
            }
        }
        for (Constructor<?> constructor : face.getDeclaredConstructors()) {
            if (!Modifier.isPrivate(constructor.getModifiers())) {
                check(Modifier.isPublic(constructor.getModifiers()), constructor + " is not public");
                seen.add("PageVault" + list(constructor.getParameterTypes()));
            }
        }
        for (Method method : face.getDeclaredMethods()) {
            if (!Modifier.isPrivate(method.getModifiers())) {
                check(method.getModifiers() == Modifier.PUBLIC, method + " is not just public");
                seen.add(method.getReturnType() + " " + method.getName() + list(method.getParameterTypes()));
            }
        }
        return seen;
    }

    private static String list(Class<?>[] types) {
        return Arrays.toString(types).replace('[', '(').replace(']', ')');
    }

    private static Set<String> methodNamesHidden(Class<?> face) {
        Set<String> names = new TreeSet<>();
        for (Method method : face.getDeclaredMethods()) {
            if (Modifier.isPrivate(method.getModifiers())) {
                names.add(method.getName());
            }
        }
        return names;
    }

    private static Set<String> methodNamesOf(Set<String> face) {
        Set<String> names = new TreeSet<>();
        for (String member : face) {
            int open = member.indexOf('(');
            int space = member.indexOf(' ');
            if (open > space && space >= 0) {
                names.add(member.substring(space + 1, open));
            }
        }
        return names;
    }

    private static void checkStaticFields(Class<?> face) {
        for (Field field : face.getDeclaredFields()) {
            if (Modifier.isStatic(field.getModifiers())) {
                check(Modifier.isFinal(field.getModifiers()), field + " is static and not final");
            }
        }
    }
}
