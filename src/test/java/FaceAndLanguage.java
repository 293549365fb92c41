import java.lang.reflect.Constructor;
import java.lang.reflect.Field;
import java.lang.reflect.Method;
import java.lang.reflect.Modifier;
import java.nio.file.Files;
import java.nio.file.Path;
import java.util.List;
import java.util.Set;
import java.util.TreeSet;
import java.util.regex.Matcher;
import java.util.regex.Pattern;

/** The class has the document's face and no more, and its source keeps to rules of ../shared/LANGUAGE.md. */
public final class FaceAndLanguage {
    private static final Path SOURCE = Path.of("src/main/java/PavedByNext.java");
    private static final String FACE = "letter(1) town(0) street(2) mends(2) pence(2) hands(2) year(0) mud(2) worst(2)"
            + " again(0) way(2) ring(0) tail(1) rings(0) never(0) felt(2) worth(2) bestMap(2) change(1) cure(2)"
            + " putIn(3) takeOut(2) row(1) fitting(2) judge(0) seeds(2) image(0) on(0) count(1)";
    private static final List<String> FORBIDDEN = List.of("\\bthrow\\b", "\\btry\\b", "\\bcatch\\b",
            "\\bsynchronized\\b", "\\bassert\\b", "\\bimport\\b", "\\bpackage\\b", "->", "::", "Exact\\(",
            "\\bequals\\b", "\\bhashCode\\b", "\\btoString\\b", "\\bObject\\b", "\\bThread\\b", "\\bnanoTime\\b",
            "\\bcurrentTimeMillis\\b", "\\bRandom\\b", "\\bsun\\b");

    private static final Set<String> LIBRARY = Set.of("String", "StringBuilder", "Integer", "Long", "Math", "ArrayList",
            "List", "Iterator", "Iterable", "Comparable", "System", "Arrays");

    private static int wrong = 0;

    private static void holds(String what, boolean holds) {
        if (!holds) {
            wrong++;
            System.out.println("does not hold: " + what);
        }
    }

    public static void main(String[] args) throws Exception {
        face();
        members(PavedByNext.class);
        for (Class<?> inside : PavedByNext.class.getDeclaredClasses()) {
            holds(inside + " is static and not public", Modifier.isStatic(inside.getModifiers())
                    && !Modifier.isPublic(inside.getModifiers()) && !Modifier.isProtected(inside.getModifiers()));
            members(inside);
        }
        source(Files.readString(SOURCE));
        System.out.println(wrong == 0 ? "face and language are as due" : wrong + " are not as due");
        if (wrong != 0) {
            System.exit(1);
        }
    }

    private static void face() {
        Class<PavedByNext> c = PavedByNext.class;
        holds("public and final", Modifier.isPublic(c.getModifiers()) && Modifier.isFinal(c.getModifiers()));
        Constructor<?>[] constructors = c.getDeclaredConstructors();
        holds("one public constructor without parameters", constructors.length == 1
                && Modifier.isPublic(constructors[0].getModifiers()) && constructors[0].getParameterCount() == 0);
        Set<String> due = new TreeSet<>(List.of(FACE.split(" ")));
        Set<String> found = new TreeSet<>();
        Set<String> publicNames = new TreeSet<>();
        for (Method m : c.getDeclaredMethods()) {
            if (!Modifier.isPrivate(m.getModifiers())) {
                found.add(m.getName() + "(" + m.getParameterCount() + ")");
                publicNames.add(m.getName());
                holds(m + " is a public method of ints that answers an int", Modifier.isPublic(m.getModifiers())
                        && !Modifier.isStatic(m.getModifiers()) && m.getReturnType() == int.class
                        && List.of(m.getParameterTypes()).stream().allMatch(p -> p == int.class));
            }
        }
        holds("the face " + found + " is " + due, found.equals(due));
        for (Method m : c.getDeclaredMethods()) {
            holds(m + " bears the name of a public one",
                    !Modifier.isPrivate(m.getModifiers()) || !publicNames.contains(m.getName()));
        }
        for (Field f : c.getDeclaredFields()) {
            holds(f + " is private", Modifier.isPrivate(f.getModifiers()));
        }
    }

    private static void members(Class<?> c) {
        int fields = 0;
        for (Field f : c.getDeclaredFields()) {
            if (Modifier.isStatic(f.getModifiers())) {
                holds(f + " is a constant", Modifier.isFinal(f.getModifiers())
                        && (f.getType().isPrimitive() || f.getType() == String.class));
            } else {
                fields++;
            }
        }
        holds(c + " has at most twenty fields", fields <= 20);
        for (Method m : c.getDeclaredMethods()) {
            holds(m + " has at most seven parameters", m.getParameterCount() <= 7);
        }
    }

    private static void source(String text) {
        String code = text.replaceAll("(?s)/\\*.*?\\*/", "").replaceAll("//[^\n]*", "");
        for (String word : FORBIDDEN) {
            Matcher m = Pattern.compile(word).matcher(code);
            holds("the source is without " + word, !m.find());
        }
        Matcher type = Pattern.compile("\\b[A-Z][A-Za-z]*[a-z][A-Za-z]*\\b").matcher(code);
        while (type.find()) {
            String name = type.group();
            holds(name + " is a class of its own or of the library that is left",
                    LIBRARY.contains(name) || code.contains("class " + name + " "));
        }
        holds("of System arraycopy alone", !code.replace("System.arraycopy(", "").contains("System"));
        holds("no texts joined by +", !Pattern.compile("\"\\s*\\+|\\+\\s*\"").matcher(code).find());
        holds("signs 1 to 127 alone", text.chars().allMatch(c -> c >= 1 && c <= 127));
        methodLengths(text.split("\n"), "    ");
        methodLengths(text.split("\n"), "        ");
    }

    /** A block that begins and ends at this indentation counts as a method: shorter ones do no harm. */
    private static void methodLengths(String[] lines, String indent) {
        int start = -1;
        for (int i = 0; i < lines.length; i++) {
            if (lines[i].matches(indent + "\\S.*\\) \\{")) {
                start = i;
            } else if (start >= 0 && lines[i].startsWith(indent + "}")) {
                holds(lines[start] + " is at most sixty lines long", i - start + 1 <= 60);
                start = -1;
            }
        }
    }
}
