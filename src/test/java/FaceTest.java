import java.lang.reflect.Constructor;
import java.lang.reflect.Field;
import java.lang.reflect.Method;
import java.lang.reflect.Modifier;
import java.util.Set;
import java.util.TreeSet;

/** The public face, and promise 1: a new object. */
final class FaceTest {
    private static final String[] DUE = {
        "int line(int,int,int) IllegalArgumentException IllegalStateException",
        "int word(int) IllegalArgumentException IllegalStateException",
        "int learn(int) IllegalArgumentException",
        "int set(int,int) IllegalArgumentException",
        "int forget()",
        "int many(int) IllegalArgumentException",
        "int ofLine(int,int) IndexOutOfBoundsException IllegalArgumentException",
        "int wordAt(int,int) IndexOutOfBoundsException",
        "int ofTemplate(int,int) IndexOutOfBoundsException IllegalArgumentException",
        "int slot(int,int) IndexOutOfBoundsException",
        "int values(int,int) IndexOutOfBoundsException",
        "int alike(int,int) IndexOutOfBoundsException",
        "int ofSession(int,int) IndexOutOfBoundsException IllegalArgumentException",
        "int inSession(int,int) IndexOutOfBoundsException",
        "int usual()",
        "double meanSession()",
        "int count(int,int) IndexOutOfBoundsException IllegalArgumentException",
        "int spike(int,int) IndexOutOfBoundsException IllegalArgumentException",
        "int causes(int) IndexOutOfBoundsException",
        "int cause(int,int,int) IndexOutOfBoundsException IllegalArgumentException",
        "int because(int) IndexOutOfBoundsException",
        "int templatesWith(int) IllegalArgumentException",
        "int sessionsWith(int) IllegalArgumentException",
        "int wouldBe(int) IndexOutOfBoundsException IllegalStateException",
        "long digest()",
    };

    private static final Check CHECK = new Check();

    public static void main(String[] args) {
        face();
        newObject();
        CHECK.end("FaceTest");
    }

    private static void face() {
        Set<String> due = new TreeSet<>(Set.of(DUE));
        Set<String> got = new TreeSet<>();
        Set<String> names = new TreeSet<>();
        for (Method m : Nightjar.class.getDeclaredMethods()) {
            if (Modifier.isPublic(m.getModifiers())) {
                got.add(signature(m));
                names.add(m.getName());
            }
        }
        CHECK.same("the public methods", due.toString(), got.toString());
        for (Method m : Nightjar.class.getDeclaredMethods()) {
            if (!Modifier.isPublic(m.getModifiers())) {
                CHECK.same(m.getName() + " is private", 1, Modifier.isPrivate(m.getModifiers()) ? 1 : 0);
                CHECK.same(m.getName() + " bears a public name", 0, names.contains(m.getName()) ? 1 : 0);
            }
        }
        Constructor<?>[] made = Nightjar.class.getConstructors();
        CHECK.same("how many public constructors", 1, made.length);
        CHECK.same("arguments of the constructor", 0, made[0].getParameterCount());
        CHECK.same("constructors in all", 1, Nightjar.class.getDeclaredConstructors().length);
        CHECK.same("public fields", 0, Nightjar.class.getFields().length);
        for (Field f : Nightjar.class.getDeclaredFields()) {
            CHECK.same(f.getName() + " is private", 1, Modifier.isPrivate(f.getModifiers()) ? 1 : 0);
        }
        for (Class<?> inside : Nightjar.class.getDeclaredClasses()) {
            CHECK.same(inside.getName() + " is static", 1, Modifier.isStatic(inside.getModifiers()) ? 1 : 0);
            CHECK.same(inside.getName() + " is public", 0, Modifier.isPublic(inside.getModifiers()) ? 1 : 0);
        }
        CHECK.same("the class is final", 1, Modifier.isFinal(Nightjar.class.getModifiers()) ? 1 : 0);
    }

    private static String signature(Method m) {
        StringBuilder text = new StringBuilder();
        text.append(m.getReturnType().getName()).append(' ').append(m.getName()).append('(');
        for (int i = 0; i < m.getParameterCount(); i++) {
            text.append(i > 0 ? "," : "").append(m.getParameterTypes()[i].getName());
        }
        text.append(')');
        for (Class<?> thrown : m.getExceptionTypes()) {
            text.append(' ').append(thrown.getSimpleName());
        }
        return text.toString();
    }

    private static void newObject() {
        Nightjar x = new Nightjar();
        for (int what = 0; what <= 5; what++) {
            CHECK.same("many(" + what + ") of a new object", 0, x.many(what));
        }
        CHECK.same("usual() of a new object", -1, x.usual());
        CHECK.same("meanSession() of a new object", 0.0, x.meanSession());
        CHECK.same("learn(70) of a new object", 0, x.learn(70));
        CHECK.same("forget() of a new object", 0, x.forget());
        CHECK.same("templatesWith(50) of a new object", 0, x.templatesWith(50));
        CHECK.same("sessionsWith(30) of a new object", 0, x.sessionsWith(30));
        CHECK.same("SHARE of a new object", 50, x.set(0, 50));
        CHECK.same("GAP of a new object", 30, x.set(1, 30));
        CHECK.same("WIDTH of a new object", 10, x.set(2, 10));
        CHECK.same("BACK of a new object", 20, x.set(3, 20));
        CHECK.fails("ofLine(0, 0) of a new object", IndexOutOfBoundsException.class, () -> x.ofLine(0, 0));
        CHECK.fails("ofTemplate(0, 0) of a new object", IndexOutOfBoundsException.class, () -> x.ofTemplate(0, 0));
        CHECK.fails("ofSession(0, 0) of a new object", IndexOutOfBoundsException.class, () -> x.ofSession(0, 0));
        CHECK.fails("spike(0, 0) of a new object", IndexOutOfBoundsException.class, () -> x.spike(0, 0));
        Nightjar other = new Nightjar();
        other.line(0, 0, 0);
        CHECK.same("lines of an object beside another", 0, x.many(0));
    }
}
