import java.lang.reflect.Constructor;
import java.lang.reflect.Field;
import java.lang.reflect.Method;
import java.lang.reflect.Modifier;
import java.util.Set;
import java.util.TreeSet;

/** The public face, as the document writes it, and nothing beside it that others could see. */
public final class FaceTest {
    private static final Check check = new Check();
    private static final String ARGUMENT = " throws IllegalArgumentException";
    private static final String STATE = ARGUMENT + ",IllegalStateException";
    private static final Set<String> METHODS = Set.of(
        "void region(int,int,int,int,int)" + ARGUMENT, "void store(int,int,int)" + ARGUMENT, "int cell(int,int)",
        "void ready(int,int,int)" + STATE, "boolean reset(int)", "int send(int,int,int)" + STATE,
        "int move(int,boolean,int,int,int,int)" + STATE, "int add(int,int,int,int,int)" + STATE,
        "int receive(int,int,int)" + STATE, "int push(int)", "boolean deliver(int)", "boolean spoil(int,boolean)",
        "int tick()", "int packets()", "int packet(int,int)", "int pair(int,int)", "int completions(int)",
        "int poll(int,int)" + ARGUMENT + ",NoSuchElementException");

    public static void main(String[] args) {
        Class<?> c = RemoteReach.class;
        check.yes("public and final", Modifier.isPublic(c.getModifiers()) && Modifier.isFinal(c.getModifiers()));
        methods(c);
        constructors(c);
        fields(c);
        classesInside(c);
        check.end();
    }

    private static void methods(Class<?> c) {
        Set<String> seen = new TreeSet<>();
        Set<String> names = new TreeSet<>();
        for (Method m : c.getDeclaredMethods()) {
            if (!Modifier.isPrivate(m.getModifiers())) {
                seen.add(written(m));
                check.yes(m + " is public and no more", m.getModifiers() == Modifier.PUBLIC);
                names.add(m.getName());
            }
        }
        check.yes("the methods " + seen, seen.equals(METHODS));
        for (Method m : c.getDeclaredMethods()) {
            check.no(m + " bears a public name", Modifier.isPrivate(m.getModifiers()) && names.contains(m.getName()));
        }
    }

    private static String written(Method m) {
        String thrown = listed(m.getExceptionTypes());
        return m.getReturnType() + " " + m.getName() + "(" + listed(m.getParameterTypes()) + ")"
            + (thrown.isEmpty() ? "" : " throws " + thrown);
    }

    private static String listed(Class<?>[] types) {
        StringBuilder text = new StringBuilder();
        for (Class<?> type : types) {
            text.append(text.length() == 0 ? "" : ",").append(type.getSimpleName());
        }
        return text.toString();
    }

    private static void constructors(Class<?> c) {
        Constructor<?>[] all = c.getDeclaredConstructors();
        check.same("constructors", 1, all.length);
        check.yes("a public one", Modifier.isPublic(all[0].getModifiers()));
        check.text("its parameters", "int,int,int", listed(all[0].getParameterTypes()));
        check.text("what it throws", "", listed(all[0].getExceptionTypes()));
    }

    private static void fields(Class<?> c) {
        for (Field f : c.getDeclaredFields()) {
            boolean isNone = f.getName().equals("NONE");
            if (isNone) {
                check.text("NONE", "public static final int RemoteReach.NONE", f.toString());
            }
            check.same(f + " is private", isNone ? 0 : 1, Modifier.isPrivate(f.getModifiers()) ? 1 : 0);
            check.yes(f + " is final", Modifier.isFinal(f.getModifiers()));
        }
    }

    private static void classesInside(Class<?> c) {
        check.yes("at most twelve classes", c.getDeclaredClasses().length < 12);
        for (Class<?> inside : c.getDeclaredClasses()) {
            int m = inside.getModifiers();
            check.yes(inside + " is static and not public", Modifier.isStatic(m) && !Modifier.isPublic(m) && !Modifier.isProtected(m));
            check.yes(inside + " has at most twenty fields", inside.getDeclaredFields().length <= 20);
        }
    }
}
