import java.io.DataInputStream;
import java.io.IOException;
import java.io.InputStream;
import java.lang.reflect.Array;
import java.lang.reflect.Field;
import java.lang.reflect.Method;
import java.lang.reflect.Modifier;
import java.nio.charset.StandardCharsets;
import java.nio.file.Files;
import java.nio.file.Path;
import java.util.ArrayDeque;
import java.util.ArrayList;
import java.util.Collections;
import java.util.Deque;
import java.util.IdentityHashMap;
import java.util.List;
import java.util.Set;
import java.util.regex.Matcher;
import java.util.regex.Pattern;

/** What LANGUAGE.md asks of the program that can be told of its compiled classes, its objects and its lines. */
public final class LanguageTest {
    private static final Checks c = new Checks("LanguageTest");

    /** All of the library that the program may use, of what rule 4 leaves. */
    private static final Set<String> LIBRARY = Set.of("java/lang/Object.<init>()V", "java/lang/String.length()I",
        "java/lang/String.charAt(I)C", "java/lang/Math.max(II)I", "java/lang/Math.min(II)I", "java/lang/Math.min(JJ)J",
        "java/lang/Long.bitCount(J)I", "java/lang/Long.numberOfLeadingZeros(J)I", "java/lang/Long.numberOfTrailingZeros(J)I",
        "java/lang/System.arraycopy(Ljava/lang/Object;ILjava/lang/Object;II)V");

    private static final int MOST_CLASSES = 12, MOST_FIELDS = 20, MOST_PARAMETERS = 7, MOST_LINES = 60, MOST_COLUMNS = 120;

    /** A small part of the room, 600,000 objects and arrays and 7.3 million fields and elements, in which a run lives. */
    private static final int MOST_OBJECTS = 300, MOST_HELD = 4000;

    public static void main(String[] args) throws Exception {
        List<Class<?>> classes = classes();
        shapes(classes);
        for (Class<?> one : classes) {
            library(one);
        }
        List<String> lines = Files.readAllLines(Path.of("src/main/java/YoungerBack.java"), StandardCharsets.US_ASCII);
        loops(lines);
        lengths(lines);
        room();
        c.end();
    }

    private static List<Class<?>> classes() {
        List<Class<?>> all = new ArrayList<>(List.of(YoungerBack.class));
        all.addAll(List.of(YoungerBack.class.getDeclaredClasses()));
        return all;
    }

    /** Rules 1, 5, 6, 11. */
    private static void shapes(List<Class<?>> classes) {
        c.holds("some twelve classes at most", classes.size() <= MOST_CLASSES);
        for (Class<?> one : classes) {
            c.due(one + " has no classes deeper inside", one == YoungerBack.class ? 0 : one.getDeclaredClasses().length, 0);
            int fields = 0;
            for (Field field : one.getDeclaredFields()) {
                boolean isStatic = Modifier.isStatic(field.getModifiers());
                fields += isStatic ? 0 : 1;
                c.holds(field + ": what is static is final, a number", !isStatic
                    || Modifier.isFinal(field.getModifiers()) && field.getType() == int.class);
                c.holds(field + " is of no library class", isOfOurs(field.getType()));
            }
            c.holds(one + " has some twenty fields at most", fields <= MOST_FIELDS);
            for (Method method : one.getDeclaredMethods()) {
                c.holds(method + " takes seven at most", method.getParameterCount() <= MOST_PARAMETERS);
                c.due(method + " declares no exceptions", method.getExceptionTypes().length, 0);
            }
        }
    }

    private static boolean isOfOurs(Class<?> type) {
        Class<?> element = type;
        while (element.isArray()) {
            element = element.getComponentType();
        }
        return element.isPrimitive() || element == YoungerBack.class || element.getNestHost() == YoungerBack.class;
    }

    /** Rules 2 to 4: what the compiled class calls, or names, is its own or of the library that is listed. */
    private static void library(Class<?> one) throws IOException {
        for (String member : membersUsed(one)) {
            c.holds(one.getName() + " uses " + member, member.startsWith("YoungerBack") || LIBRARY.contains(member));
        }
    }

    private static List<String> membersUsed(Class<?> one) throws IOException {
        List<String> used = new ArrayList<>();
        try (InputStream in = one.getResourceAsStream("/" + one.getName() + ".class"); DataInputStream data = new DataInputStream(in)) {
            data.readInt();
            data.readInt();
            int many = data.readUnsignedShort();
            String[] texts = new String[many];
            int[][] parts = new int[many][];
            for (int i = 1; i < many; i++) {
                i += constant(data, i, texts, parts);
            }
            for (int i = 1; i < many; i++) {
                if (parts[i] != null && parts[i].length == 2 && parts[i][0] >= 0) {
                    used.add(texts[parts[parts[i][0]][0]] + "." + texts[parts[parts[i][1]][1]] + texts[parts[parts[i][1]][2]]);
                }
            }
        }
        return used;
    }

    /** Reads a constant of a class file; of a long it stands in two places: 1 then. A member is a class and a name. */
    private static int constant(DataInputStream data, int i, String[] texts, int[][] parts) throws IOException {
        int tag = data.readUnsignedByte();
        switch (tag) {
            case 1:
                texts[i] = data.readUTF();
                return 0;
            case 3: case 4:
                data.readInt();
                return 0;
            case 5: case 6:
                data.readLong();
                return 1;
            case 7:
                parts[i] = new int[] {data.readUnsignedShort()};
                return 0;
            case 8:
                data.readUnsignedShort();
                return 0;
            case 9: case 10: case 11:
                parts[i] = new int[] {data.readUnsignedShort(), data.readUnsignedShort()};
                return 0;
            case 12:
                parts[i] = new int[] {-1, data.readUnsignedShort(), data.readUnsignedShort()};
                return 0;
            default:
                c.holds("a class file without constants of kind " + tag + " (of lambdas, of texts joined by +)", false);
                data.skipBytes(tag == 15 ? 3 : tag == 16 || tag == 19 || tag == 20 ? 2 : 4);
                return 0;
        }
    }

    /** Rule 9: each loop's own line holds something against a bound, or goes over an array. */
    private static void loops(List<String> lines) {
        int loops = 0;
        for (String line : lines) {
            if (line.trim().startsWith("while (") || line.trim().startsWith("for (")) {
                loops++;
                c.holds("a bound can be seen: " + line.trim(), line.matches(".*( < | <= | >= | > ).*"));
            }
            c.holds("no do: " + line.trim(), !line.trim().startsWith("do {"));
        }
        c.holds("loops were looked at", loops > 0);
    }

    /** Rule 11: methods stay short; and lines can be read. */
    private static void lengths(List<String> lines) {
        Pattern begins = Pattern.compile("( +)[\\w<>\\[\\] ]+\\(.*\\) \\{");
        int methods = 0;
        for (int at = 0; at < lines.size(); at++) {
            c.holds("line " + (at + 1) + " is not too long", lines.get(at).length() <= MOST_COLUMNS);
            Matcher m = begins.matcher(lines.get(at));
            if (m.matches() && !lines.get(at).trim().matches("(if|for|while|switch) .*")) {
                int end = lines.subList(at, lines.size()).indexOf(m.group(1) + "}");
                c.holds(lines.get(at).trim() + " ends behind some sixty lines", end >= 0 && end <= MOST_LINES);
                methods++;
            }
        }
        c.holds("methods were looked at", methods > 50);
    }

    /** Rule 12: what an object holds is made with it; no call makes more. */
    private static void room() throws IllegalAccessException {
        YoungerBack x = new YoungerBack();
        Set<Object> first = held(x);
        c.holds("objects and arrays of a new one: " + first.size(), first.size() <= MOST_OBJECTS);
        int elements = 0;
        for (Object one : first) {
            elements += one.getClass().isArray() ? Array.getLength(one) : fieldsOf(one.getClass()).size();
        }
        c.holds("fields and elements of a new one: " + elements, elements <= MOST_HELD);
        for (int round = 0; round < 5; round++) {
            callAll(x, round);
        }
        Set<Object> last = held(x);
        c.due("as many behind the calls", last.size(), first.size());
        c.holds("and the same", last.containsAll(first));
    }

    private static void callAll(YoungerBack x, int round) {
        Checks.read(x, "law 5 20;way 0 1 9 1;person captain 0 3;person boy 0 9;person pilot 0 1;person clerk 1 2;");
        for (int person = 0; person < 4; person++) {
            x.sail(person, 0);
            x.stay(person, 3);
            x.borrow(person, 9);
            x.meet(person, 3);
            x.person(person, 4);
            x.gains(person, 1, 40, 0);
            x.soonest(person, 1, 3);
            x.voyages(person, 4);
            x.even(person, 3, 1);
            x.where(person, 20, 20);
            x.gone(person);
            x.kind(person);
            x.as(person, 1);
            x.ask(person, person % 2);
        }
        Checks.rowOf(x, round % 8, 0, 0, 0);
        x.copy(round % 8, 0, round % 8, 1, 2);
        x.sails(0, round % 8, 0, 3);
        x.drop(round % 2);
        x.image(round % 2);
        x.undo();
        x.restore(round % 2);
        x.trace(0);
        x.count(0);
        x.eldest(0);
        x.league();
        x.fault();
        x.status();
    }

    private static Set<Object> held(Object root) throws IllegalAccessException {
        Set<Object> seen = Collections.newSetFromMap(new IdentityHashMap<>());
        Deque<Object> open = new ArrayDeque<>(List.of(root));
        while (!open.isEmpty()) {
            Object one = open.pop();
            if (!seen.add(one)) {
                continue;
            }
            if (one instanceof Object[] elements) {
                for (Object element : elements) {
                    push(open, element);
                }
            }
            for (Field field : fieldsOf(one.getClass())) {
                field.setAccessible(true);
                if (!field.getType().isPrimitive()) {
                    push(open, field.get(one));
                }
            }
        }
        return seen;
    }

    private static void push(Deque<Object> open, Object one) {
        c.holds("no reference is left without an object", one != null);
        if (one != null) {
            open.push(one);
        }
    }

    private static List<Field> fieldsOf(Class<?> type) {
        List<Field> fields = new ArrayList<>();
        for (Field field : type.getDeclaredFields()) {
            if (!Modifier.isStatic(field.getModifiers())) {
                fields.add(field);
            }
        }
        return fields;
    }
}
