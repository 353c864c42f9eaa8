/** Calls of the class by name, so that a run of calls can be kept as data and told when it goes wrong. */
final class Calls {
    static final String[] NAMES = {"row", "set", "copy", "drop", "feed", "square", "fault", "undo", "noons", "move",
        "write", "hide", "clock", "paper", "stand", "ahead", "bitten", "left", "when", "over", "spot", "decoy", "hides",
        "sets", "share", "byTurns", "who", "rain", "drawn", "image", "restore", "kind", "as", "ask", "trace", "count",
        "status"};

    private Calls() {
    }

    static int arity(String name) {
        switch (name) {
            case "square": case "fault": case "undo": case "over": case "status": return 0;
            case "drop": case "feed": case "noons": case "hide": case "clock": case "stand": case "image":
            case "restore": case "kind": case "trace": case "count": return 1;
            case "row": case "set": case "ahead": case "spot": case "decoy": case "drawn": return 3;
            case "rain": return 4;
            case "copy": case "who": return 5;
            default: return 2;
        }
    }

    static long call(NameNoon x, String name, int... a) {
        switch (name) {
            case "row": return x.row(a[0], a[1], a[2]);
            case "set": return x.set(a[0], a[1], a[2]);
            case "copy": return x.copy(a[0], a[1], a[2], a[3], a[4]);
            case "drop": return x.drop(a[0]);
            case "feed": return x.feed(a[0]);
            case "square": return x.square();
            case "fault": return x.fault();
            case "undo": return x.undo();
            case "noons": return x.noons(a[0]);
            case "move": return x.move(a[0], a[1]);
            case "write": return x.write(a[0], a[1]);
            case "hide": return x.hide(a[0]);
            case "clock": return x.clock(a[0]);
            case "paper": return x.paper(a[0], a[1]);
            case "stand": return x.stand(a[0]);
            case "ahead": return x.ahead(a[0], a[1], a[2]);
            case "bitten": return x.bitten(a[0], a[1]);
            case "left": return x.left(a[0], a[1]);
            case "when": return x.when(a[0], a[1]);
            default: return laterCall(x, name, a);
        }
    }

    private static long laterCall(NameNoon x, String name, int[] a) {
        switch (name) {
            case "over": return x.over();
            case "spot": return x.spot(a[0], a[1], a[2]);
            case "decoy": return x.decoy(a[0], a[1], a[2]);
            case "hides": return x.hides(a[0], a[1]);
            case "sets": return x.sets(a[0], a[1]);
            case "share": return x.share(a[0], a[1]);
            case "byTurns": return x.byTurns(a[0], a[1]);
            case "who": return x.who(a[0], a[1], a[2], a[3], a[4]);
            case "rain": return x.rain(a[0], a[1], a[2], a[3]);
            case "drawn": return x.drawn(a[0], a[1], a[2]);
            case "image": return x.image(a[0]);
            case "restore": return x.restore(a[0]);
            case "kind": return x.kind(a[0]);
            case "as": return x.as(a[0], a[1]);
            case "ask": return x.ask(a[0], a[1]);
            case "trace": return x.trace(a[0]);
            case "count": return x.count(a[0]);
            case "status": return x.status();
            default: throw new AssertionError(name);
        }
    }
}
