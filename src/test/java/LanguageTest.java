import java.io.IOException;
import java.lang.reflect.Field;
import java.lang.reflect.Method;
import java.lang.reflect.Modifier;
import java.nio.file.Files;
import java.nio.file.Path;
import java.util.Arrays;
import java.util.List;
import java.util.Map;
import java.util.Set;
import java.util.TreeMap;
import java.util.TreeSet;
import java.util.regex.Matcher;
import java.util.regex.Pattern;

/** The rules of LANGUAGE.md that can be seen in the source or in the class. */
public final class LanguageTest {
    private static final Path SOURCE = Path.of("src/main/java/ColdGuest.java");
    private static final String[] FACE = {
        "int row(int,int,int)", "int set(int,int,int)", "int copy(int,int,int,int,int)", "int drop(int)",
        "int feed(int)", "int house()", "int fault()", "int undo()", "int hours(int)", "int door(int,int)",
        "int sit(int,int)", "int room(int,int)", "int doorHas(int,int)", "int sitter(int,int)",
        "int ahead(int,int)", "int allAhead(int)", "int shivers(int)", "int moved(int,int,int,int,int)",
        "int sitWhere(int,int,int,int)", "int led(int,int,int)", "int came(int,int,int)", "int who(int,int,int,int)",
        "int parted(int,int,int)", "int coldest(int,int)", "int guest(int)", "long wind(int,int,int)",
        "int drawn(int,int,int)", "int image(int)", "int restore(int)", "int kind(int)", "int as(int,int)",
        "int ask(int,int)", "int trace(int)", "int count(int)", "int status()"};
    private static final int MOST_DEPTH = 8;
    private static final Pattern HEAD = Pattern.compile("( {4}| {8})(?:\\w+ )+(\\w+)\\(.*\\) \\{");
    private static final Pattern CALL = Pattern.compile("(\\w+)\\(");
    private static final Check check = new Check();

    public static void main(String[] args) throws IOException {
        face();
        members();
        for (Class<?> inside : ColdGuest.class.getDeclaredClasses()) {
            check.holds(inside + " is static", Modifier.isStatic(inside.getModifiers()));
            check.holds(inside + " is not public", !Modifier.isPublic(inside.getModifiers()));
            sizes(inside);
        }
        sizes(ColdGuest.class);
        check.holds("twelve classes at most", ColdGuest.class.getDeclaredClasses().length <= 11);
        words();
        objectsAreMadeWithFields();
        methodsAreShort();
        callsAreFlat();
        check.end("LanguageTest");
    }

    private static void face() {
        Set<String> due = new TreeSet<>(Arrays.asList(FACE));
        Set<String> is = new TreeSet<>();
        for (Method m : ColdGuest.class.getDeclaredMethods()) {
            if (Modifier.isPublic(m.getModifiers())) {
                String told = m.getReturnType() + " " + m.getName() + Arrays.toString(m.getParameterTypes());
                is.add(told.replace('[', '(').replace(']', ')').replace(", ", ","));
            }
        }
        check.holds("the face: " + is, is.equals(due));
        check.holds("public and final", ColdGuest.class.getModifiers() == (Modifier.PUBLIC | Modifier.FINAL));
        check.due("constructors", ColdGuest.class.getDeclaredConstructors().length, 1);
        check.due("public ones", ColdGuest.class.getConstructors().length, 1);
    }

    private static void members() {
        for (Method m : ColdGuest.class.getDeclaredMethods()) {
            int how = m.getModifiers();
            check.holds(m + " is public or private", Modifier.isPublic(how) || Modifier.isPrivate(how));
        }
        for (Field f : ColdGuest.class.getDeclaredFields()) {
            boolean constant = Set.of("NONE", "BAD", "STATE", "FULL").contains(f.getName());
            check.holds(f + " is private", constant || Modifier.isPrivate(f.getModifiers()));
        }
    }

    private static void sizes(Class<?> one) {
        Set<String> open = new TreeSet<>();
        for (Method m : ColdGuest.class.getMethods()) {
            open.add(m.getName());
        }
        int fields = 0;
        for (Field f : one.getDeclaredFields()) {
            if (Modifier.isStatic(f.getModifiers())) {
                check.holds(f + " is final", Modifier.isFinal(f.getModifiers()));
            } else {
                fields++;
            }
        }
        check.holds(one + " has twenty fields at most", fields <= 20);
        for (Method m : one.getDeclaredMethods()) {
            check.holds(m + " takes seven at most", m.getParameterCount() <= 7);
            boolean face = one == ColdGuest.class && Modifier.isPublic(m.getModifiers());
            check.holds(m + " has a name of its own", face || !open.contains(m.getName()));
        }
    }

    private static void words() throws IOException {
        String code = withoutComments(Files.readString(SOURCE));
        String[] none = {"\\bthrow\\b", "\\bthrows\\b", "\\btry\\b", "\\bcatch\\b", "\\bsynchronized\\b", "\\bassert\\b",
            "\\bimport\\b", "\\bpackage\\b", "->", "::", "static\\s*\\{", "\\w+Exact\\b", "\\bSystem\\.(?!arraycopy)",
            "\\bdouble\\b", "\\bfloat\\b", "\\bvar\\b", "\\bObject\\b", "\\bwhile\\s*\\(\\s*true"};
        for (String word : none) {
            check.holds("none of " + word, !Pattern.compile(word).matcher(code).find());
        }
        check.holds("signs 1 to 127", code.chars().allMatch(c -> c >= 1 && c <= 127));
    }

    private static String withoutComments(String code) {
        return code.replaceAll("(?s)/\\*.*?\\*/", "").replaceAll("//.*", "");
    }

    /** A call makes no objects: all are made as the fields of a new ColdGuest. */
    private static void objectsAreMadeWithFields() throws IOException {
        for (String line : withoutComments(Files.readString(SOURCE)).split("\n")) {
            if (Pattern.compile("\\bnew\\b").matcher(line).find()) {
                check.holds(line.strip() + " is a field", line.contains(" final "));
            }
        }
    }

    /** Each method's lines, from its head to its closing brace, by its name. */
    private static Map<String, List<String>> methods() throws IOException {
        List<String> lines = List.of(withoutComments(Files.readString(SOURCE)).split("\n"));
        Map<String, List<String>> found = new TreeMap<>();
        for (int i = 0; i < lines.size(); i++) {
            Matcher head = HEAD.matcher(lines.get(i));
            if (head.matches()) {
                int last = i + lines.subList(i, lines.size()).indexOf(head.group(1) + "}");
                check.holds("one method of the name " + head.group(2), !found.containsKey(head.group(2)));
                found.put(head.group(2), lines.subList(i, last + 1));
            }
        }
        int due = ColdGuest.class.getDeclaredMethods().length + ColdGuest.class.getDeclaredConstructors().length;
        for (Class<?> inside : ColdGuest.class.getDeclaredClasses()) {
            due += inside.getDeclaredMethods().length;
        }
        check.due("methods that were found", found.size(), due);
        return found;
    }

    private static void methodsAreShort() throws IOException {
        for (Map.Entry<String, List<String>> one : methods().entrySet()) {
            check.holds(one.getKey() + " has an end", !one.getValue().isEmpty());
            check.holds(one.getKey() + " is short", one.getValue().size() <= 60);
        }
    }

    /** No method comes round to itself, and none stands more than eight deep. */
    private static void callsAreFlat() throws IOException {
        Map<String, List<String>> bodies = methods();
        for (String name : bodies.keySet()) {
            int deep = depth(name, bodies, MOST_DEPTH + 1);
            check.holds(name + " goes " + MOST_DEPTH + " deep at most", deep <= MOST_DEPTH);
        }
    }

    private static int depth(String name, Map<String, List<String>> bodies, int left) {
        int below = 0;
        List<String> body = bodies.get(name);
        Matcher call = CALL.matcher(String.join("\n", body.subList(1, body.size())));
        while (left > 0 && call.find()) {
            if (bodies.containsKey(call.group(1))) {
                below = Math.max(below, depth(call.group(1), bodies, left - 1));
            }
        }
        return 1 + below;
    }
}
