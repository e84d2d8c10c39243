import java.io.IOException;
import java.lang.reflect.Field;
import java.lang.reflect.Method;
import java.lang.reflect.Modifier;
import java.nio.file.Files;
import java.nio.file.Path;
import java.util.ArrayList;
import java.util.Arrays;
import java.util.List;
import java.util.Set;
import java.util.TreeSet;
import java.util.regex.Pattern;

/** The rules of LANGUAGE.md that can be seen in the source or in the class. */
public final class LanguageTest {
    private static final Path SOURCE = Path.of("src/main/java/ColdGuest.java");
    private static final String[] FACE = {
        "int row(int,int,int)", "int set(int,int,int)", "int copy(int,int,int,int,int)", "int drop(int)",
        "int feed(int)", "int house()", "int fault()", "int undo()", "int hours(int)", "int door(int,int)",
        "int sit(int,int)", "int room(int,int)", "int doorHas(int,int)", "int sitter(int,int)",
        "int ahead(int,int)", "int allAhead(int)", "int shivers(int)", "int moved(int,int,int,int,int)",
        "int sitWhere(int,int,int,int)", "int led(int,int,int)", "int came(int,int,int)", "int who(int,int,int,int)",
        "int parted(int,int,int)", "int coldest(int,int)", "int guest(int)", "long wind(int,int,int)",
        "int drawn(int,int,int)", "int image(int)", "int restore(int)", "int kind(int)", "int as(int,int)",
        "int ask(int,int)", "int trace(int)", "int count(int)", "int status()"};
    private static final Check check = new Check();

    public static void main(String[] args) throws IOException {
        face();
        members();
        for (Class<?> inside : ColdGuest.class.getDeclaredClasses()) {
            check.holds(inside + " is static", Modifier.isStatic(inside.getModifiers()));
            check.holds(inside + " is not public", !Modifier.isPublic(inside.getModifiers()));
            sizes(inside);
        }
        sizes(ColdGuest.class);
        check.holds("twelve classes at most", ColdGuest.class.getDeclaredClasses().length <= 11);
        words();
        objectsAreMadeWithFields();
        methodsAreShort();
        check.end("LanguageTest");
    }

    private static void face() {
        Set<String> due = new TreeSet<>(Arrays.asList(FACE));
        Set<String> is = new TreeSet<>();
        for (Method m : ColdGuest.class.getDeclaredMethods()) {
            if (Modifier.isPublic(m.getModifiers())) {
                String told = m.getReturnType() + " " + m.getName() + Arrays.toString(m.getParameterTypes());
                is.add(told.replace('[', '(').replace(']', ')').replace(", ", ","));
            }
        }
        check.holds("the face: " + is, is.equals(due));
        check.holds("public and final", ColdGuest.class.getModifiers() == (Modifier.PUBLIC | Modifier.FINAL));
        check.due("constructors", ColdGuest.class.getDeclaredConstructors().length, 1);
        check.due("public ones", ColdGuest.class.getConstructors().length, 1);
    }

    private static void members() {
        for (Method m : ColdGuest.class.getDeclaredMethods()) {
            int how = m.getModifiers();
            check.holds(m + " is public or private", Modifier.isPublic(how) || Modifier.isPrivate(how));
        }
        for (Field f : ColdGuest.class.getDeclaredFields()) {
            boolean constant = Set.of("NONE", "BAD", "STATE", "FULL").contains(f.getName());
            check.holds(f + " is private", constant || Modifier.isPrivate(f.getModifiers()));
        }
    }

    private static void sizes(Class<?> one) {
        Set<String> open = new TreeSet<>();
        for (Method m : ColdGuest.class.getMethods()) {
            open.add(m.getName());
        }
        int fields = 0;
        for (Field f : one.getDeclaredFields()) {
            if (Modifier.isStatic(f.getModifiers())) {
                check.holds(f + " is final", Modifier.isFinal(f.getModifiers()));
            } else {
                fields++;
            }
        }
        check.holds(one + " has twenty fields at most", fields <= 20);
        for (Method m : one.getDeclaredMethods()) {
            check.holds(m + " takes seven at most", m.getParameterCount() <= 7);
            boolean face = one == ColdGuest.class && Modifier.isPublic(m.getModifiers());
            check.holds(m + " has a name of its own", face || !open.contains(m.getName()));
        }
    }

    private static void words() throws IOException {
        String code = withoutComments(Files.readString(SOURCE));
        String[] none = {"\\bthrow\\b", "\\bthrows\\b", "\\btry\\b", "\\bcatch\\b", "\\bsynchronized\\b", "\\bassert\\b",
            "\\bimport\\b", "\\bpackage\\b", "->", "::", "static\\s*\\{", "\\w+Exact\\b", "\\bSystem\\.(?!arraycopy)",
            "\\bdouble\\b", "\\bfloat\\b", "\\bvar\\b", "\\bObject\\b", "\\bwhile\\s*\\(\\s*true"};
        for (String word : none) {
            check.holds("none of " + word, !Pattern.compile(word).matcher(code).find());
        }
        check.holds("signs 1 to 127", code.chars().allMatch(c -> c >= 1 && c <= 127));
    }

    private static String withoutComments(String code) {
        return code.replaceAll("(?s)/\\*.*?\\*/", "").replaceAll("//.*", "");
    }

    /** A call makes no objects: all are made as the fields of a new ColdGuest. */
    private static void objectsAreMadeWithFields() throws IOException {
        for (String line : withoutComments(Files.readString(SOURCE)).split("\n")) {
            if (Pattern.compile("\\bnew\\b").matcher(line).find()) {
                check.holds(line.strip() + " is a field", line.contains(" final "));
            }
        }
    }

    private static void methodsAreShort() throws IOException {
        List<String> lines = Files.readAllLines(SOURCE);
        List<Integer> starts = new ArrayList<>();
        for (int i = 0; i < lines.size(); i++) {
            String line = lines.get(i);
            int depth = line.length() - line.stripLeading().length();
            if (line.endsWith(") {") && (depth == 4 || depth == 8) && !line.strip().startsWith("if") && !line.strip().startsWith("for")) {
                starts.add(i);
                String end = " ".repeat(depth) + "}";
                int last = i + lines.subList(i, lines.size()).indexOf(end);
                check.holds(line.strip() + " is short", last > i && last - i < 60);
            }
        }
        check.holds("methods were found", starts.size() > FACE.length);
    }
}
