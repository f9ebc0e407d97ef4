import java.io.IOException;
import java.lang.reflect.Constructor;
import java.lang.reflect.Executable;
import java.lang.reflect.Field;
import java.lang.reflect.Method;
import java.lang.reflect.Modifier;
import java.nio.file.Files;
import java.nio.file.Path;
import java.util.Arrays;
import java.util.List;
import java.util.Set;
import java.util.TreeSet;

/** The class has the document's public face and nothing else that can be seen from outside (LANGUAGE.md, rule 1). */
public final class PublicFaceTest {
    private static final String A = "IllegalArgumentException";
    private static final String S = "IllegalStateException";
    private static final String U = "UnsupportedOperationException";
    private static final String N = "NoSuchElementException";
    private static final String M = "ArithmeticException";

    private static final Set<String> FACE = Set.of(
        "void place(int, int, int) " + A + " " + S,
        "void face(int, int, int, int) " + A + " " + S,
        "void put(int, int, int) " + A + " " + S + " " + U,
        "void use(int, int) " + A + " " + S,
        "void hold(int, int) " + A + " " + S,
        "void cases(int, int) " + A,
        "void rule(int, int, int, int) " + A,
        "void factor(int, int, int) " + A,
        "void wave(int, int, int) " + A + " " + S + " " + U,
        "void open(int, boolean) " + A + " " + S,
        "void day(int) " + A,
        "int mean(int, int) " + A + " " + S + " " + M,
        "long forecast(int) " + A + " " + S,
        "int threshold(int) " + A + " " + S,
        "boolean above(int) " + A + " " + S,
        "int run() " + S,
        "int move(int, int) " + N + " " + A,
        "void done(int) " + N + " " + S + " " + U,
        "int told(int, int) " + A);

    public static void main(String[] args) throws IOException {
        Class<?> c = ReplenishRules.class;
        Check.due("public and final", c.getModifiers(), Modifier.PUBLIC | Modifier.FINAL);
        Check.due("public methods as the document's", same(publicMethods(c), FACE), true);
        Constructor<?>[] made = c.getDeclaredConstructors();
        Check.due("constructors", made.length, 1);
        Check.due("the constructor's parameters", made[0].getParameterCount(), 0);
        Check.due("the constructor is public", made[0].getModifiers(), Modifier.PUBLIC);
        membersAreHidden(c);
        insideAreStatic(c);
        headsAreTheDocuments();
        Check.finish();
    }

    private static void headsAreTheDocuments() throws IOException {
        String source = Files.readString(Path.of("src/main/java/ReplenishRules.java")).replaceAll("\\s+", " ");
        List<String> heads = Document.heads();
        if (Document.isHere()) {
            Check.due("heads of the document: the constructor and the methods", heads.size(), FACE.size() + 1);
        }
        for (String head : heads) {
            Check.due("whether the class has the head: " + head, source.contains(" " + head + " {"), true);
        }
    }

    private static boolean same(Set<String> got, Set<String> want) {
        Set<String> more = new TreeSet<>(got);
        more.removeAll(want);
        Set<String> less = new TreeSet<>(want);
        less.removeAll(got);
        if (!more.isEmpty() || !less.isEmpty()) {
            System.out.println("too many: " + more + ", missing: " + less);
        }
        return more.isEmpty() && less.isEmpty();
    }

    private static Set<String> publicMethods(Class<?> c) {
        Set<String> all = new TreeSet<>();
        for (Method m : c.getDeclaredMethods()) {
            if (Modifier.isPublic(m.getModifiers())) {
                all.add(m.getReturnType() + " " + m.getName() + names(m.getParameterTypes()) + thrown(m));
            }
        }
        return all;
    }

    private static String names(Class<?>[] types) {
        String all = Arrays.toString(Arrays.stream(types).map(Class::getSimpleName).toArray());
        return "(" + all.substring(1, all.length() - 1) + ")";
    }

    private static String thrown(Executable m) {
        StringBuilder all = new StringBuilder();
        for (Class<?> e : m.getExceptionTypes()) {
            all.append(' ').append(e.getSimpleName());
        }
        return all.toString();
    }

    private static void membersAreHidden(Class<?> c) {
        Set<String> names = new TreeSet<>();
        for (Method m : c.getDeclaredMethods()) {
            if (Modifier.isPublic(m.getModifiers())) {
                names.add(m.getName());
            }
        }
        for (Method m : c.getDeclaredMethods()) {
            if (!Modifier.isPublic(m.getModifiers())) {
                Check.due(m.getName() + " is private", Modifier.isPrivate(m.getModifiers()), true);
                Check.due(m.getName() + " bears a public name", names.contains(m.getName()), false);
            }
        }
        for (Field f : c.getDeclaredFields()) {
            Check.due(f.getName() + " is private", Modifier.isPrivate(f.getModifiers()), true);
            Check.due(f.getName() + " is final", Modifier.isFinal(f.getModifiers()), true);
        }
    }

    private static void insideAreStatic(Class<?> c) {
        for (Class<?> inside : c.getDeclaredClasses()) {
            int modifiers = inside.getModifiers();
            Check.due(inside + " is static", Modifier.isStatic(modifiers), true);
            Check.due(inside + " is public", Modifier.isPublic(modifiers) || Modifier.isProtected(modifiers), false);
        }
    }
}
