import java.io.IOException;
import java.lang.reflect.Method;
import java.lang.reflect.Modifier;
import java.nio.file.Files;
import java.nio.file.Path;
import java.util.HashSet;
import java.util.List;
import java.util.Set;
import java.util.regex.Matcher;
import java.util.regex.Pattern;
import java.util.stream.Stream;

/** README.md tells no answer that the class does not give, and leaves out no call and no test. */
public final class ReadmeTest {
    private static final Path PAGE = Path.of("README.md");
    private static final Path TESTS = Path.of("src/test/java");
    private static final Pattern CALL = Pattern.compile("guest\\.(\\w+)\\(([^)\"]*)\\);\\s*// (-?\\w+).*");
    private static final Pattern TOLD = Pattern.compile("tell\\(guest, \"([^\"]*)\"\\);\\s*// (-?\\w+).*");
    private static final Check check = new Check();
    private static final Set<String> called = new HashSet<>();

    public static void main(String[] args) throws IOException {
        List<String> page = Files.readAllLines(PAGE);
        examples(page);
        everyCallHasAnExample();
        everyTestIsNamed(String.join("\n", page));
        check.end("ReadmeTest");
    }

    private static void examples(List<String> page) {
        ColdGuest guest = null;
        for (int i = 0; i < page.size(); i++) {
            String line = page.get(i);
            String where = "README.md, line " + (i + 1) + ": " + line;
            Matcher call = CALL.matcher(line);
            Matcher told = TOLD.matcher(line);
            if (line.equals("ColdGuest guest = new ColdGuest();")) {
                guest = new ColdGuest();
            } else if (told.matches()) {
                check.due(where, Check.tell(guest, told.group(1)), answer(told.group(2)));
                called.addAll(List.of("feed", "house"));
            } else if (call.matches()) {
                check.due(where, Calls.of(guest, call.group(1), numbers(call.group(2))), answer(call.group(3)));
                called.add(call.group(1));
            } else {
                check.holds(where + " tells its answer", !line.startsWith("guest.") && !line.startsWith("tell("));
            }
        }
    }

    private static void everyCallHasAnExample() {
        for (Method m : ColdGuest.class.getDeclaredMethods()) {
            if (Modifier.isPublic(m.getModifiers())) {
                check.holds(m.getName() + " has an example", called.contains(m.getName()));
            }
        }
    }

    private static void everyTestIsNamed(String page) throws IOException {
        try (Stream<Path> files = Files.list(TESTS)) {
            files.map(f -> f.getFileName().toString()).filter(f -> f.endsWith("Test.java")).forEach(f ->
                check.holds(f + " is named", page.contains("`" + f.replace(".java", "") + "`")));
        }
    }

    private static int[] numbers(String list) {
        return list.isEmpty() ? new int[0] : Stream.of(list.split(", ")).mapToInt(Integer::parseInt).toArray();
    }

    private static long answer(String word) {
        return switch (word) {
            case "NONE" -> ColdGuest.NONE;
            case "BAD" -> ColdGuest.BAD;
            case "STATE" -> ColdGuest.STATE;
            case "FULL" -> ColdGuest.FULL;
            default -> Long.parseLong(word);
        };
    }
}
