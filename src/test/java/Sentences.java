import java.util.ArrayList;
import java.util.List;
import java.util.Set;
import java.util.regex.Matcher;
import java.util.regex.Pattern;

/**
 * Runs of calls, told as text, that hold a sentence of the document. A run is on a new object, its words are
 *
 *   name(1,2)=3      a call and what it must answer: a number, or NONE, BAD, STATE, FULL, NULL, PLACE, KIND, SIZE,
 *                    STORE, or F7: a fault at byte 7; without an answer it must not be refused
 *   24*name(1)       a call so many times
 *   tape[n1,0,0,0;]  the bytes of a text are fed
 *   house[n1,..;]=0  they are fed, and read
 *
 * Behind each call that is refused, or found, or that only tells, all of the object that can be seen is held
 * against a second object without that call: nothing but status() may differ.
 */
final class Sentences {
    private static final int MOST_CALLS = 512;
    private static final List<String> REFUSALS = List.of("NONE", "BAD", "STATE", "FULL");
    private static final List<String> FINDINGS = List.of("NULL", "PLACE", "KIND", "SIZE", "STORE");
    private static final Set<String> WITH_STATUS = Set.of("row", "set", "copy", "drop", "came", "who", "as");
    private static final Set<String> TELLING = Set.of("fault", "room", "doorHas", "sitter", "ahead", "allAhead",
        "shivers", "moved", "sitWhere", "led", "came", "who", "parted", "coldest", "guest", "wind", "drawn", "kind",
        "as", "trace", "count", "status");
    private static final Pattern CALL = Pattern.compile("(?:(\\d+)\\*)?(\\w+)\\(([^)]*)\\)(?:=(\\S+))?");
    private static final Pattern TEXT = Pattern.compile("(tape|house)\\[([^\\]]*)\\](?:=(\\S+))?");

    private record Step(String name, int[] a, String want) {
        String told() {
            StringBuilder text = new StringBuilder(name).append('(');
            for (int i = 0; i < a.length; i++) {
                text.append(i == 0 ? "" : ", ").append(a[i]);
            }
            return text.append(')').toString();
        }
    }

    private final Check check = new Check();
    private final String name;

    Sentences(String name) {
        this.name = name;
    }

    void end() {
        check.end(name);
    }

    void hold(String sentence, String... words) {
        List<Step> steps = new ArrayList<>();
        for (String word : String.join(" ", words).trim().split("\\s+")) {
            read(word, steps);
        }
        run(sentence, steps);
    }

    private static void read(String word, List<Step> steps) {
        Matcher text = TEXT.matcher(word);
        Matcher call = CALL.matcher(word);
        if (text.matches()) {
            for (char letter : text.group(2).toCharArray()) {
                steps.add(new Step("feed", new int[] {letter}, null));
            }
            if (text.group(1).equals("house")) {
                steps.add(new Step("house", new int[0], text.group(3)));
            }
        } else if (call.matches()) {
            int times = call.group(1) == null ? 1 : Integer.parseInt(call.group(1));
            for (int i = 0; i < times; i++) {
                steps.add(new Step(call.group(2), numbers(call.group(3)), call.group(4)));
            }
        } else {
            throw new IllegalArgumentException("no such word: " + word);
        }
    }

    private static int[] numbers(String list) {
        String[] parts = list.isEmpty() ? new String[0] : list.split(",");
        int[] a = new int[parts.length];
        for (int i = 0; i < a.length; i++) {
            a[i] = parts[i].equals("MAX") ? Integer.MAX_VALUE
                : parts[i].equals("MIN") ? Integer.MIN_VALUE : Integer.parseInt(parts[i]);
        }
        return a;
    }

    private static long answer(String word) {
        if (REFUSALS.contains(word)) {
            return -1000000 - REFUSALS.indexOf(word);
        }
        if (FINDINGS.contains(word)) {
            return -1000011 - FINDINGS.indexOf(word);
        }
        if (word.startsWith("F")) {
            return -1000100 - Integer.parseInt(word.substring(1));
        }
        return Long.parseLong(word);
    }

    private void run(String sentence, List<Step> steps) {
        ColdGuest guest = new ColdGuest();
        Model model = new Model();
        for (int i = 0; i < steps.size(); i++) {
            Step step = steps.get(i);
            String told = sentence + " -- call " + (i + 1) + ", " + step.told();
            long got = Calls.of(guest, step.name(), step.a());
            if (step.want() == null) {
                check.holds(told + " is not refused", !isRefused(got));
            } else {
                check.due(told, got, answer(step.want()));
            }
            check.due(told + ", by the model", model.call(step.name(), step.a()), got);
            if (isFault(got)) {
                faultLeavesAll(told, steps, i);
            } else if (isRefused(got) || TELLING.contains(step.name())) {
                changesNothing(told, steps, i, got);
            }
        }
        check.holds(sentence + ": 512 calls at most", steps.size() <= MOST_CALLS);
    }

    private static boolean isFault(long answer) {
        return answer <= -1000100 && answer >= -1000220;
    }

    private static boolean isFinding(long answer) {
        return answer <= -1000011 && answer >= -1000015;
    }

    private static boolean isRefused(long answer) {
        return answer <= ColdGuest.BAD && answer >= ColdGuest.FULL || isFinding(answer) || isFault(answer);
    }

    private static ColdGuest behind(List<Step> steps) {
        ColdGuest guest = new ColdGuest();
        for (Step step : steps) {
            Calls.of(guest, step.name(), step.a());
        }
        return guest;
    }

    private void changesNothing(String told, List<Step> steps, int i, long answer) {
        ColdGuest without = behind(steps.subList(0, i));
        long status = without.status();
        boolean tellsStatus = WITH_STATUS.contains(steps.get(i).name());
        if (tellsStatus && !(isRefused(answer) && !isFinding(answer))) {
            status = isFinding(answer) ? -1000010 - answer : 0;
        }
        Probe before = Probe.of(without);
        Probe then = Probe.of(behind(steps.subList(0, i + 1)));
        check.holds(told + ": status is " + status + " (" + then.at(Probe.STATUS_AT) + ")",
            then.at(Probe.STATUS_AT).equals("status = " + status));
        same(told, before, then, Probe.STATUS_AT);
        check.holds(told + ": 512 calls at most", i + 1 + then.calls() <= MOST_CALLS);
    }

    /** Of a fault only its number stays: without it the bytes had not come at all. */
    private void faultLeavesAll(String told, List<Step> steps, int i) {
        Probe before = Probe.of(behind(withoutTheTape(steps.subList(0, i))));
        Probe then = Probe.of(behind(steps.subList(0, i + 1)));
        same(told, before, then, Probe.FAULT_AT);
        check.holds(told + ": 512 calls at most", i + 1 + then.calls() <= MOST_CALLS);
    }

    private static List<Step> withoutTheTape(List<Step> steps) {
        List<Step> left = new ArrayList<>();
        boolean unread = true;
        for (int i = steps.size() - 1; i >= 0; i--) {
            unread = unread && !steps.get(i).name().equals("house");
            if (!unread || !steps.get(i).name().equals("feed")) {
                left.add(0, steps.get(i));
            }
        }
        return left;
    }

    private void same(String told, Probe before, Probe then, int but) {
        check.due(told + ": as much is seen", then.length(), before.length());
        for (int k = 0; k < before.length(); k++) {
            if (k != but) {
                check.holds(told + " changed " + before.at(k) + " to " + then.at(k), before.at(k).equals(then.at(k)));
            }
        }
    }
}
