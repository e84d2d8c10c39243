/** Calls by their names, so that tests can tell them as data. */
final class Calls {
    private Calls() {
    }

    static long of(ColdGuest x, String name, int... a) {
        return switch (name) {
            case "row" -> x.row(a[0], a[1], a[2]);
            case "set" -> x.set(a[0], a[1], a[2]);
            case "copy" -> x.copy(a[0], a[1], a[2], a[3], a[4]);
            case "drop" -> x.drop(a[0]);
            case "feed" -> x.feed(a[0]);
            case "house" -> x.house();
            case "fault" -> x.fault();
            case "undo" -> x.undo();
            case "hours" -> x.hours(a[0]);
            case "door" -> x.door(a[0], a[1]);
            case "sit" -> x.sit(a[0], a[1]);
            case "room" -> x.room(a[0], a[1]);
            case "doorHas" -> x.doorHas(a[0], a[1]);
            case "sitter" -> x.sitter(a[0], a[1]);
            case "ahead" -> x.ahead(a[0], a[1]);
            case "allAhead" -> x.allAhead(a[0]);
            case "shivers" -> x.shivers(a[0]);
            case "moved" -> x.moved(a[0], a[1], a[2], a[3], a[4]);
            case "sitWhere" -> x.sitWhere(a[0], a[1], a[2], a[3]);
            case "led" -> x.led(a[0], a[1], a[2]);
            case "came" -> x.came(a[0], a[1], a[2]);
            case "who" -> x.who(a[0], a[1], a[2], a[3]);
            case "parted" -> x.parted(a[0], a[1], a[2]);
            case "coldest" -> x.coldest(a[0], a[1]);
            case "guest" -> x.guest(a[0]);
            case "wind" -> x.wind(a[0], a[1], a[2]);
            case "drawn" -> x.drawn(a[0], a[1], a[2]);
            case "image" -> x.image(a[0]);
            case "restore" -> x.restore(a[0]);
            case "kind" -> x.kind(a[0]);
            case "as" -> x.as(a[0], a[1]);
            case "ask" -> x.ask(a[0], a[1]);
            case "trace" -> x.trace(a[0]);
            case "count" -> x.count(a[0]);
            case "status" -> x.status();
            default -> throw new IllegalArgumentException(name);
        };
    }
}
