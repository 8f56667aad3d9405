import java.lang.reflect.Constructor;
import java.lang.reflect.Field;
import java.lang.reflect.Method;
import java.lang.reflect.Modifier;
import java.util.Arrays;
import java.util.HashSet;
import java.util.Set;
import java.util.TreeSet;

/** The public face is the document's, and nothing else can be seen from outside. */
public final class FaceTest {

    private static final String[] FACE = {
        "int setSize(int) IllegalArgumentException IllegalStateException",
        "int setBand(int,int) IllegalArgumentException IllegalStateException",
        "int setLevel(int) IllegalArgumentException IllegalStateException",
        "int set(int,int) IllegalArgumentException",
        "int setDemand(int,int) IndexOutOfBoundsException IllegalArgumentException",
        "int addPump(int,int) IllegalArgumentException IllegalStateException",
        "int swear(int,int) IndexOutOfBoundsException IllegalArgumentException",
        "boolean service(int,boolean) IndexOutOfBoundsException IllegalStateException",
        "int pass(int) IllegalArgumentException IllegalStateException",
        "int pump(int,int) IndexOutOfBoundsException IllegalArgumentException",
        "int demand(int) IndexOutOfBoundsException",
        "int value(int) IllegalArgumentException",
        "int setting(int) IllegalArgumentException",
        "long water(int) IllegalArgumentException",
        "long nightLeak() IllegalStateException",
        "int entry(int,int) IndexOutOfBoundsException IllegalArgumentException",
        "int levelIn(int) IllegalArgumentException",
        "int startsIn(int,int) IndexOutOfBoundsException IllegalArgumentException",
        "int oathFor(int) IllegalArgumentException",
        "int emptyIn()",
        "int nextStart()",
        "double honesty()",
        "int append(int) IllegalArgumentException IllegalStateException",
        "int clearText()",
        "int carryOut()",
        "int undo() IllegalStateException",
        "long digest()",
    };

    public static void main(String[] args) throws Exception {
        methods();
        fieldsAndConstructors();
        privateNames();
        Check.close("FaceTest");
    }

    private static String sign(Method method) {
        StringBuilder sign = new StringBuilder(method.getReturnType().getSimpleName());
        sign.append(' ').append(method.getName()).append('(');
        String[] kinds = Arrays.stream(method.getParameterTypes()).map(Class::getSimpleName).toArray(String[]::new);
        sign.append(String.join(",", kinds)).append(')');
        for (Class<?> kind : method.getExceptionTypes()) {
            sign.append(' ').append(kind.getSimpleName());
        }
        return sign.toString();
    }

    private static void methods() {
        Set<String> got = new TreeSet<>();
        for (Method method : PumpOaths.class.getDeclaredMethods()) {
            if (!Modifier.isPrivate(method.getModifiers()) && !method.isSynthetic()) {
                Check.holds(method + " public and not static",
                        Modifier.isPublic(method.getModifiers()) && !Modifier.isStatic(method.getModifiers()));
                got.add(sign(method));
            }
        }
        Set<String> due = new TreeSet<>(Arrays.asList(FACE));
        Check.holds("the methods are " + due + " and not " + got, got.equals(due));
    }

    private static void fieldsAndConstructors() throws Exception {
        for (Field field : PumpOaths.class.getDeclaredFields()) {
            boolean isNone = field.getName().equals("NONE");
            Check.holds(field + " is hidden", isNone || Modifier.isPrivate(field.getModifiers()));
        }
        Field none = PumpOaths.class.getDeclaredField("NONE");
        Check.holds("NONE is a constant", none.getModifiers() == (Modifier.PUBLIC | Modifier.STATIC | Modifier.FINAL));
        Check.holds("the class is public and final",
                PumpOaths.class.getModifiers() == (Modifier.PUBLIC | Modifier.FINAL));
        Constructor<?>[] made = PumpOaths.class.getDeclaredConstructors();
        Check.holds("one public constructor without arguments", made.length == 1
                && Modifier.isPublic(made[0].getModifiers()) && made[0].getParameterCount() == 0);
    }

    /** No private method, in any class of the file, bears the name of a public one. */
    private static void privateNames() {
        Set<String> names = new HashSet<>();
        for (Method method : PumpOaths.class.getMethods()) {
            names.add(method.getName());
        }
        for (Method method : PumpOaths.class.getDeclaredMethods()) {
            boolean isPrivate = Modifier.isPrivate(method.getModifiers());
            Check.holds(method + " has a name of its own", !isPrivate || !names.contains(method.getName()));
        }
        for (Class<?> inside : PumpOaths.class.getDeclaredClasses()) {
            Check.holds(inside + " is hidden", !Modifier.isPublic(inside.getModifiers())
                    && !Modifier.isProtected(inside.getModifiers()));
            for (Method method : inside.getDeclaredMethods()) {
                boolean isPrivate = Modifier.isPrivate(method.getModifiers());
                Check.holds(method + " has a name of its own", !isPrivate || !names.contains(method.getName()));
            }
        }
    }
}
