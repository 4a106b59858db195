import java.lang.reflect.Constructor;
import java.lang.reflect.Field;
import java.lang.reflect.Member;
import java.lang.reflect.Method;
import java.lang.reflect.Modifier;
import java.util.Arrays;
import java.util.TreeSet;

/** The public face: every constant, constructor and method of the document, and no other. */
public final class FaceTest {

    private static final String[] METHODS = {
        "int feed(long,int)", "int wipe()", "int at(int)", "int poke(int,int)", "int terms()", "int sort(int)", "int key()",
        "boolean power(int,boolean)", "int press(int)", "boolean cut(int,int)", "int command(int,int)",
        "int answer(int,int)", "int take(int)", "int flash(int,int)", "int told(int,int)", "int credential(int,int,int)",
        "int own(int)", "boolean agree(int,int)", "int seal(int,int,int)", "int open(int,int)", "boolean token(int,int)",
        "boolean pin(int,int)", "boolean page(int,int)", "int setPin(int,int)", "int changePin(int,int,int)",
        "int unlock(int,int)", "int create(int,int,int,int,long,int,int,int)", "int get(int,int,int,int,long,int,int,int)",
        "int party(int,int)", "int offer(int,long,int,boolean,boolean)", "int judge(int,int)", "int withdraw(int)",
        "int account(int,int,int)"};

    public static void main(String[] args) {
        Class<?> c = PasskeyHouse.class;
        Bench.holds("public and final", Modifier.isPublic(c.getModifiers()) && Modifier.isFinal(c.getModifiers()));
        TreeSet<String> want = new TreeSet<>(Arrays.asList(METHODS));
        TreeSet<String> got = new TreeSet<>();
        TreeSet<String> names = new TreeSet<>();
        for (Method m : c.getDeclaredMethods()) {
            if (isOurs(m) && !Modifier.isPrivate(m.getModifiers())) {
                Bench.holds(m + " is public", Modifier.isPublic(m.getModifiers()) && !Modifier.isStatic(m.getModifiers()));
                got.add(signature(m));
                names.add(m.getName());
            }
        }
        Bench.holds("the methods are " + got, got.equals(want));
        constants(c);
        classes(c, names);
        Bench.end();
    }

    private static String signature(Method m) {
        StringBuilder all = new StringBuilder(m.getReturnType() + " " + m.getName() + "(");
        for (Class<?> p : m.getParameterTypes()) {
            all.append(all.charAt(all.length() - 1) == '(' ? "" : ",").append(p);
        }
        return all.append(')').toString();
    }

    private static boolean isOurs(Member m) {
        return !m.isSynthetic();
    }

    private static void constants(Class<?> c) {
        TreeSet<String> got = new TreeSet<>();
        for (Field f : c.getDeclaredFields()) {
            if (isOurs(f) && !Modifier.isPrivate(f.getModifiers())) {
                got.add(Modifier.toString(f.getModifiers()) + " " + f.getType() + " " + f.getName());
            }
        }
        String head = "public static final int ";
        Bench.holds("the constants are " + got,
            got.equals(new TreeSet<>(Arrays.asList(head + "NONE", head + "FOREIGN", head + "SILENT"))));
        Constructor<?>[] made = c.getDeclaredConstructors();
        Bench.holds("one public constructor",
            made.length == 1 && Modifier.isPublic(made[0].getModifiers()) && made[0].getParameterCount() == 0);
    }

    private static void classes(Class<?> c, TreeSet<String> face) {
        Bench.holds("some twelve classes", c.getDeclaredClasses().length < 12);
        for (Method m : c.getDeclaredMethods()) {
            Bench.holds(m + " bears no public name", !Modifier.isPrivate(m.getModifiers()) || !face.contains(m.getName()));
        }
        for (Class<?> inside : c.getDeclaredClasses()) {
            int how = inside.getModifiers();
            Bench.holds(inside + " is static and not public",
                Modifier.isStatic(how) && !Modifier.isPublic(how) && !Modifier.isProtected(how));
            for (Method m : inside.getDeclaredMethods()) {
                Bench.holds(m + " bears no public name", !face.contains(m.getName()));
            }
            for (Field f : inside.getDeclaredFields()) {
                Bench.holds(f + " is no state of all", !Modifier.isStatic(f.getModifiers()) || Modifier.isFinal(f.getModifiers()));
            }
        }
    }
}
