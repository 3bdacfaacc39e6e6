import java.io.IOException;
import java.lang.reflect.Constructor;
import java.lang.reflect.Field;
import java.lang.reflect.Method;
import java.lang.reflect.Modifier;
import java.nio.file.Files;
import java.nio.file.Path;
import java.util.Arrays;
import java.util.Set;
import java.util.TreeSet;
import java.util.regex.Matcher;
import java.util.regex.Pattern;

/** The public face of the document, and what of LANGUAGE.md can be seen in the class or in its text. */
public final class FaceTest {
    private static final Set<String> FACE = Set.of(
            "int tick() IllegalStateException",
            "int clock()",
            "int state(int,int,int,int,int) IllegalArgumentException IllegalStateException NoSuchElementException",
            "boolean queue(int,int,int,int,int)",
            "int commit() IllegalArgumentException IllegalStateException NoSuchElementException",
            "int failed()",
            "int value(int,int,int) IllegalArgumentException NoSuchElementException",
            "boolean has(int,int,int)",
            "long sum(int,int,int,int) IllegalArgumentException",
            "int runs(int,int) IllegalArgumentException",
            "int run(int,int,int,int) IllegalArgumentException IndexOutOfBoundsException",
            "int rows()",
            "int row(int,int) IllegalArgumentException IndexOutOfBoundsException",
            "int changes(int,int) IllegalArgumentException",
            "int relation(int,int,int,int) IllegalArgumentException",
            "int join(int,int,int,int) IllegalArgumentException");

    // Words of Java and of its library that the rules leave out, as far as a word alone tells it.
    private static final String[] LEFT_OUT = {"->", "::", "synchronized", "assert", "finally", "System.out",
        "System.nanoTime", "System.currentTimeMillis", "Math.random", "Random", "Exact", "HashMap", "Thread",
        "getMessage", "package ", "protected "};

    public static void main(String[] args) throws IOException {
        methods();
        otherMembers();
        nestedClasses();
        sizes();
        text(Files.readString(Path.of("src/main/java/TwoTimesTable.java")));
        Check.end("FaceTest");
    }

    private static String told(Method m) {
        StringBuilder b = new StringBuilder();
        b.append(m.getReturnType().getSimpleName()).append(' ').append(m.getName()).append('(');
        Class<?>[] types = m.getParameterTypes();
        for (int i = 0; i < types.length; i++) {
            b.append(i == 0 ? "" : ",").append(types[i].getSimpleName());
        }
        b.append(')');
        Class<?>[] thrown = m.getExceptionTypes();
        String[] names = new String[thrown.length];
        for (int i = 0; i < thrown.length; i++) {
            names[i] = thrown[i].getSimpleName();
        }
        Arrays.sort(names);
        for (String name : names) {
            b.append(' ').append(name);
        }
        return b.toString();
    }

    private static void methods() {
        Set<String> open = new TreeSet<>();
        Set<String> openNames = new TreeSet<>();
        Set<String> hiddenNames = new TreeSet<>();
        for (Method m : TwoTimesTable.class.getDeclaredMethods()) {
            if (Modifier.isPublic(m.getModifiers())) {
                open.add(told(m));
                openNames.add(m.getName());
                Check.holds(m.getName() + " is no static method", !Modifier.isStatic(m.getModifiers()));
            } else {
                hiddenNames.add(m.getName());
                Check.holds(m.getName() + " is private", Modifier.isPrivate(m.getModifiers()));
            }
        }
        Check.same("public methods", new TreeSet<>(FACE).toString(), open.toString());
        hiddenNames.retainAll(openNames);
        Check.same("private methods with a public one's name", "[]", hiddenNames.toString());
    }

    private static void otherMembers() {
        int type = TwoTimesTable.class.getModifiers();
        Check.holds("public final class", Modifier.isPublic(type) && Modifier.isFinal(type));
        Constructor<?>[] made = TwoTimesTable.class.getDeclaredConstructors();
        Check.holds("one constructor", made.length == 1 && made[0].getParameterCount() == 0);
        Check.holds("it is public", Modifier.isPublic(made[0].getModifiers()));
        for (Field f : TwoTimesTable.class.getDeclaredFields()) {
            int m = f.getModifiers();
            boolean constant = f.getName().equals("NONE");
            Check.holds(f.getName(), constant ? Modifier.isPublic(m) : Modifier.isPrivate(m));
            Check.holds(f.getName(), !Modifier.isStatic(m) || Modifier.isFinal(m));
        }
    }

    private static void nestedClasses() {
        for (Class<?> c : TwoTimesTable.class.getDeclaredClasses()) {
            int m = c.getModifiers();
            Check.holds(c.getName() + " is hidden", !Modifier.isPublic(m) && !Modifier.isProtected(m));
            Check.holds(c.getName() + " is static", Modifier.isStatic(m));
            for (Field f : c.getDeclaredFields()) {
                int fm = f.getModifiers();
                Check.holds(f.getName(), !Modifier.isStatic(fm) || Modifier.isFinal(fm));
            }
        }
    }

    /** Rule 11, as far as it tells a number. */
    private static void sizes() {
        Class<?>[] inside = TwoTimesTable.class.getDeclaredClasses();
        Check.holds("at most twelve classes", inside.length < 12);
        sizesOf(TwoTimesTable.class);
        for (Class<?> c : inside) {
            sizesOf(c);
        }
    }

    private static void sizesOf(Class<?> c) {
        for (Method m : c.getDeclaredMethods()) {
            Check.holds(m.getName() + " has at most seven parameters", m.getParameterCount() <= 7);
        }
        int fields = 0;
        for (Field f : c.getDeclaredFields()) {
            fields += Modifier.isStatic(f.getModifiers()) ? 0 : 1;
        }
        Check.holds(c.getName() + " has at most twenty fields", fields <= 20);
    }

    private static void text(String source) {
        for (String word : LEFT_OUT) {
            Check.holds("the text has no " + word, !source.contains(word));
        }
        Matcher imports = Pattern.compile("(?m)^import (.*);$").matcher(source);
        while (imports.find()) {
            Check.same("import", "java.util.NoSuchElementException", imports.group(1));
        }
        for (int i = 0; i < source.length(); i++) {
            Check.holds("sign " + i, source.charAt(i) == '\n' || source.charAt(i) >= 32 && source.charAt(i) < 127);
        }
    }
}
