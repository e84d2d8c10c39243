/** Counts answers that are not as due, tells them, and ends the test by its exit code. */
final class Check {
    private int calls = 0;
    private int wrong = 0;

    void due(String what, long got, long want) {
        calls++;
        if (got != want) {
            wrong++;
            System.out.println(what + " answered " + got + ", due is " + want);
        }
    }

    void holds(String what, boolean so) {
        due(what, so ? 1 : 0, 1);
    }

    void end(String name) {
        System.out.println(name + ": " + calls + " answers, " + wrong + " not as due");
        if (wrong != 0) {
            System.exit(1);
        }
    }

    /** Feeds a text, a char a byte, and answers what house() answers. */
    static int tell(ColdGuest guest, String text) {
        feed(guest, text);
        return guest.house();
    }

    static void feed(ColdGuest guest, String text) {
        for (int i = 0; i < text.length(); i++) {
            guest.feed(text.charAt(i));
        }
    }

    static ColdGuest with(String text) {
        ColdGuest guest = new ColdGuest();
        int answer = tell(guest, text);
        if (answer < 0) {
            throw new IllegalStateException("not a house: " + text + " (" + answer + ")");
        }
        return guest;
    }

    /** Lays a row of ints with these items. */
    static void lay(ColdGuest guest, int row, int... items) {
        guest.row(row, 2, items.length);
        for (int i = 0; i < items.length; i++) {
            guest.set(row, i, items[i]);
        }
    }
}
