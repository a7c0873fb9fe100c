import java.lang.reflect.Constructor;
import java.lang.reflect.Field;
import java.lang.reflect.Method;
import java.lang.reflect.Modifier;
import java.nio.file.Files;
import java.nio.file.Path;
import java.util.Set;
import java.util.TreeSet;

/** The public face, and those rules of LANGUAGE.md that can be seen from outside or in the text. */
public final class FaceTest {
    private static final String[] METHODS = {"int open()", "int listen()", "int close(int)", "int give(int,int,long)",
        "int want(int,int,boolean,int,int)", "int tick(int)", "int lose(int)", "int hold(int,int)", "int repeat(int,int)",
        "int alter(int,int,int)", "int feed(int,int,int,int,int)", "int put(int,int,boolean)", "int way()",
        "int packet(int,int)", "int octet(int,int)", "int state(int)", "long number(int,int)",
        "int feature(int,int,boolean,int)", "int count(int,int)", "int got(int,int,int)", "int seen(int,long)",
        "int sent(int,long)"};

    public static void main(String[] args) throws Exception {
        Check.holds("public and final", Modifier.isPublic(FlowTalk.class.getModifiers())
            && Modifier.isFinal(FlowTalk.class.getModifiers()));
        methods();
        fields();
        constructors();
        classesInside();
        text();
        Check.finish();
    }

    private static void methods() {
        Set<String> want = new TreeSet<>(Set.of(METHODS)), got = new TreeSet<>(), names = new TreeSet<>();
        for (Method m : FlowTalk.class.getDeclaredMethods()) {
            if (Modifier.isPrivate(m.getModifiers())) continue;
            Check.holds(m.getName() + " is public and of the object", Modifier.isPublic(m.getModifiers())
                && !Modifier.isStatic(m.getModifiers()));
            got.add(signature(m));
            names.add(m.getName());
        }
        Check.holds("the methods are " + got, got.equals(want));
        for (Class<?> c : withFace()) {
            for (Method m : c.getDeclaredMethods()) {
                boolean own = c == FlowTalk.class && Modifier.isPublic(m.getModifiers());
                Check.holds(c.getName() + "." + m.getName() + " has a name of its own", own || !names.contains(m.getName()));
                Check.holds(m.getName() + " has at most seven parameters", m.getParameterCount() <= 7);
            }
        }
    }

    private static String signature(Method m) {
        StringBuilder s = new StringBuilder();
        for (Class<?> p : m.getParameterTypes()) s.append(s.length() == 0 ? "" : ",").append(p.getName());
        return m.getReturnType().getName() + " " + m.getName() + "(" + s + ")";
    }

    private static Class<?>[] withFace() {
        Class<?>[] inside = FlowTalk.class.getDeclaredClasses();
        Class<?>[] all = java.util.Arrays.copyOf(inside, inside.length + 1);
        all[inside.length] = FlowTalk.class;
        return all;
    }

    private static void fields() {
        Set<String> open = new TreeSet<>();
        for (Field f : FlowTalk.class.getDeclaredFields()) if (!Modifier.isPrivate(f.getModifiers())) open.add(f.getName());
        Check.holds("the constants are " + open, open.equals(Set.of("UNKNOWN", "OUTSIDE", "STATE", "ROOM")));
        for (Class<?> c : withFace()) {
            int own = 0;
            for (Field f : c.getDeclaredFields()) {
                if (!Modifier.isStatic(f.getModifiers())) own++;
                else Check.holds(f + " is final", Modifier.isFinal(f.getModifiers()));
            }
            Check.holds(c.getName() + " has twenty fields at most, has " + own, own <= 20);
        }
    }

    private static void constructors() {
        Constructor<?>[] all = FlowTalk.class.getDeclaredConstructors();
        Check.due("constructors", all.length, 1);
        Check.holds("of (long, long, int)", java.util.Arrays.equals(all[0].getParameterTypes(),
            new Class<?>[] {long.class, long.class, int.class}));
    }

    private static void classesInside() {
        Class<?>[] inside = FlowTalk.class.getDeclaredClasses();
        Check.holds("twelve classes at most", inside.length + 1 <= 12);
        for (Class<?> c : inside) {
            Check.holds(c.getName() + " is static and not public", Modifier.isStatic(c.getModifiers())
                && !Modifier.isPublic(c.getModifiers()) && !Modifier.isProtected(c.getModifiers()));
        }
    }

    private static void text() throws Exception {
        String text = Files.readString(Path.of("src/main/java/FlowTalk.java"));
        String code = text.replaceAll("(?s)/\\*.*?\\*/", " ").replaceAll("//[^\n]*", " ");
        String[] ruledOut = {"throw", "throws", "try", "catch", "synchronized", "assert", "String", "double", "float", "Random",
            "Thread", "package", "Object", "equals", "hashCode", "toString", "native", "volatile"};
        for (String word : ruledOut) {
            Check.holds("'" + word + "' is not used", !code.matches("(?s).*\\b" + word + "\\b.*"));
        }
        Check.holds("no lambda, no method reference", !code.contains("->") && !code.contains("::"));
        Check.holds("no call of Math's that throws", !code.contains("Exact("));
        for (String line : code.split("\n")) {
            if (line.startsWith("import")) Check.holds(line, line.equals("import java.util.Arrays;"));
        }
    }
}
