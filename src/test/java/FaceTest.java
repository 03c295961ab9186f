import java.lang.reflect.Constructor;
import java.lang.reflect.Field;
import java.lang.reflect.Method;
import java.lang.reflect.Modifier;
import java.util.TreeSet;

/** The public face is the document's, and nothing but it. */
public final class FaceTest {
    private static final String[] METHODS = {
        "int meter(int,int,int)", "int note(int,int,int,int)", "int pause(int,int,int)", "int also(int,int)",
        "int staff(int,int)", "int mark(int,int)", "int broken(int,int,boolean)", "int over(boolean)", "int group()",
        "int beam(int,int)", "int member(int,int)", "long badness(int)", "long other(int,int,int)", "int stem(int,int)",
        "int level(int,int)", "int feather(int,int)", "int lane(int,int,int)", "int rest(int)", "long share(int,int)",
        "int event(int,int)", "int count(int)", "int clear()"};

    public static void main(String[] args) throws ReflectiveOperationException {
        Check.about("The public face", "these members and no other");
        Class<?> c = StemBeams.class;
        Check.isTrue("the class is public and final", Modifier.isPublic(c.getModifiers()) && Modifier.isFinal(c.getModifiers()));
        methods(c);
        fields(c);
        Constructor<?>[] made = c.getDeclaredConstructors();
        Check.same("constructors", made.length, 1);
        Check.isTrue("the constructor is public and takes nothing", Modifier.isPublic(made[0].getModifiers()) && made[0].getParameterCount() == 0);
        Check.isTrue("share tells its exception",
            c.getMethod("share", int.class, int.class).getExceptionTypes()[0] == ArithmeticException.class);
        Check.end();
    }

    private static void methods(Class<?> c) {
        TreeSet<String> due = new TreeSet<>(java.util.List.of(METHODS));
        TreeSet<String> names = new TreeSet<>();
        TreeSet<String> got = new TreeSet<>();
        for (Method m : c.getDeclaredMethods()) {
            if (Modifier.isPublic(m.getModifiers())) {
                got.add(told(m));
                names.add(m.getName());
            }
        }
        Check.isTrue("public methods are " + got, got.equals(due));
        for (Method m : c.getDeclaredMethods()) {
            if (!Modifier.isPublic(m.getModifiers())) {
                Check.isTrue(m.getName() + " is private", Modifier.isPrivate(m.getModifiers()));
                Check.isTrue(m.getName() + " has a name of its own", !names.contains(m.getName()));
            }
        }
    }

    private static String told(Method m) {
        StringBuilder t = new StringBuilder(m.getReturnType().getName() + " " + m.getName() + "(");
        for (int i = 0; i < m.getParameterCount(); i++) {
            t.append(i > 0 ? "," : "").append(m.getParameterTypes()[i].getName());
        }
        return t.append(")").toString();
    }

    private static void fields(Class<?> c) throws ReflectiveOperationException {
        String[] names = {"NONE", "UNKNOWN", "OUTSIDE", "STATE", "ROOM"};
        for (int i = 0; i < names.length; i++) {
            Check.same(names[i], c.getField(names[i]).getInt(null), -1001 - i);
        }
        int open = 0;
        for (Field f : c.getDeclaredFields()) {
            int mods = f.getModifiers();
            open += Modifier.isPrivate(mods) ? 0 : 1;
            Check.isTrue(f.getName() + " is final, if it is static", !Modifier.isStatic(mods) || Modifier.isFinal(mods));
        }
        Check.same("fields that are not private", open, names.length);
    }
}
