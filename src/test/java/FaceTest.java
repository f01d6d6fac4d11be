import java.lang.reflect.Constructor;
import java.lang.reflect.Field;
import java.lang.reflect.Method;
import java.lang.reflect.Modifier;
import java.nio.charset.StandardCharsets;
import java.nio.file.Files;
import java.nio.file.Path;
import java.util.Map;
import java.util.TreeMap;
import java.util.regex.Pattern;

/** The public face, the constants, and words that the rules of the language leave out. */
public final class FaceTest {
    private static final Checks c = new Checks("FaceTest");

    /** The calls, and of what they are: i an int, l a long. */
    private static final String FACE = "row iii, set iii, copy iiiii, drop i, feed li, league, fault, sail ii, sails iiii,"
        + " stay ii, meet ii, borrow ii, undo, person ii, gains iiii, soonest iii, voyages ii, even iii, where iii, gone i,"
        + " eldest i, image i, restore i, kind i, as ii, ask ii, trace i, count i, status";

    private static final String[] RULED_OUT = {"throw", "throws", "try", "catch", "synchronized", "assert", "import", "package",
        "static\\s*\\{", "->", "::", "hashCode", "toString", "\\bequals", "Exact\\b", "System\\.(?!arraycopy)", "\\bObject\\b",
        "\\bvar\\b", "@\\w+", "new \\w+(\\[\\])?\\s*\\([^)]*\\)\\s*\\{"};

    public static void main(String[] args) throws Exception {
        constants();
        members();
        names();
        words();
        headings();
        c.end();
    }

    private static void constants() {
        c.due("NONE", YoungerBack.NONE, -1000000);
        c.due("BAD", YoungerBack.BAD, -1000001);
        c.due("STATE", YoungerBack.STATE, -1000002);
        c.due("FULL", YoungerBack.FULL, -1000003);
    }

    private static void members() {
        int of = YoungerBack.class.getModifiers();
        c.holds("public and final", Modifier.isPublic(of) && Modifier.isFinal(of));
        int shown = 0;
        for (Field field : YoungerBack.class.getDeclaredFields()) {
            if (!Modifier.isPrivate(field.getModifiers())) {
                shown++;
            }
            c.holds(field + " static ones are final", !Modifier.isStatic(field.getModifiers()) || Modifier.isFinal(field.getModifiers()));
        }
        c.due("constants shown", shown, 4);
        Constructor<?>[] made = YoungerBack.class.getDeclaredConstructors();
        c.holds("one public constructor", made.length == 1 && Modifier.isPublic(made[0].getModifiers()) && made[0].getParameterCount() == 0);
        Map<String, String> calls = new TreeMap<>();
        for (Method method : YoungerBack.class.getDeclaredMethods()) {
            if (!Modifier.isPrivate(method.getModifiers())) {
                StringBuilder of1 = new StringBuilder();
                for (Class<?> p : method.getParameterTypes()) {
                    of1.append(p == int.class ? 'i' : p == long.class ? 'l' : '?');
                }
                c.holds(method + " answers an int", method.getReturnType() == int.class && Modifier.isPublic(method.getModifiers()));
                c.holds(method + " is told once", calls.put(method.getName(), of1.toString()) == null);
            }
        }
        c.holds("the calls are those of the document", calls.equals(told()));
        for (Class<?> inside : YoungerBack.class.getDeclaredClasses()) {
            c.holds(inside + " is static and private", Modifier.isStatic(inside.getModifiers()) && Modifier.isPrivate(inside.getModifiers()));
        }
    }

    private static Map<String, String> told() {
        Map<String, String> calls = new TreeMap<>();
        for (String call : FACE.split(",\\s*")) {
            String[] parts = call.trim().split(" ");
            calls.put(parts[0], parts.length == 1 ? "" : parts[1]);
        }
        return calls;
    }

    private static void names() {
        Map<String, String> told = told();
        for (Method method : YoungerBack.class.getDeclaredMethods()) {
            if (Modifier.isPrivate(method.getModifiers())) {
                c.holds(method + " bears a name of its own", !told.containsKey(method.getName()));
            }
        }
        for (Class<?> inside : YoungerBack.class.getDeclaredClasses()) {
            for (Method method : inside.getDeclaredMethods()) {
                c.holds(method + " bears a name of its own", !told.containsKey(method.getName()));
            }
        }
    }

    private static String source() throws Exception {
        return Files.readString(Path.of("src/main/java/YoungerBack.java"), StandardCharsets.ISO_8859_1);
    }

    /** What the interface says ahead of the calls, each of them behind its heading, in the document's order. */
    private static void headings() throws Exception {
        String source = source();
        int at = 0;
        String[] order = {"---- rows", "int row(", "int set(", "int copy(", "int drop(", "---- leagues, voyages", "int feed(",
            "int league(", "int fault(", "int sail(", "int sails(", "int stay(", "int meet(", "int borrow(", "int undo(",
            "int person(", "---- foretold", "int gains(", "int soonest(", "int voyages(", "int even(", "int where(",
            "int gone(", "int eldest(", "int image(", "int restore(", "---- asked", "int kind(", "int as(", "int ask(",
            "int trace(", "int count(", "int status("};
        for (String next : order) {
            int found = source.indexOf(next);
            c.holds(next + " behind what is ahead of it", found > at);
            at = found;
        }
    }

    private static void words() throws Exception {
        String source = source();
        String code = source.replaceAll("(?s)/\\*.*?\\*/", "").replaceAll("//[^\n]*", "");
        for (String word : RULED_OUT) {
            String whole = Character.isLetter(word.charAt(0)) ? "\\b" + word + "\\b" : word;
            c.holds("without " + word, !Pattern.compile(word.endsWith("\\{") ? word : whole).matcher(code).find());
        }
    }
}
