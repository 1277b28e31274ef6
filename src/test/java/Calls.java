import java.util.function.ToIntFunction;

/** Calls of the house told by a name and numbers, so that a house and the model can be given the same ones. */
final class Calls {
    private Calls() {
    }

    static ToIntFunction<KeyblockHouse> of(String call, int... a) {
        switch (call) {
            case "letter": return h -> h.letter((char) a[0]);
            case "work": return KeyblockHouse::work;
            case "block": return h -> h.block(a[0]);
            case "line": return h -> h.line(a[0], a[1], a[2]);
            case "recut": return h -> h.recut(a[0], a[1], a[2]);
            case "edict": return h -> h.edict(a[0]);
            case "seal": return h -> h.seal(a[0]);
            case "damp": return h -> h.damp(a[0]);
            case "run": return h -> h.run(a[0], a[1]);
            case "pass": return h -> h.pass(a[0]);
            case "bid": return h -> h.bid(a[0], a[1], a[2]);
            case "sell": return h -> h.sell(a[0], a[1]);
            default: return question(call, a);
        }
    }

    private static ToIntFunction<KeyblockHouse> question(String call, int[] a) {
        switch (call) {
            case "broken": return h -> h.broken(a[0], a[1], a[2]);
            case "marks": return h -> h.marks(a[0], a[1], a[2]);
            case "state": return h -> h.state(a[0], a[1]);
            case "stateAnew": return h -> h.stateAnew(a[0], a[1]);
            case "breaks": return h -> h.breaks(a[0], a[1], a[2]);
            case "strong": return h -> h.strong(a[0], a[1], a[2]);
            case "off": return h -> h.off(a[0], a[1], a[2]);
            case "owner": return h -> h.owner(a[0], a[1]);
            case "about": return h -> h.about(a[0], a[1]);
            case "purse": return KeyblockHouse::purse;
            default: throw new AssertionError(call);
        }
    }

    static String told(String call, int... a) {
        StringBuilder text = new StringBuilder(call);
        for (int argument : a) {
            text.append(' ').append(argument);
        }
        return text.toString();
    }
}
