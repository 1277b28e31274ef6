import java.util.ArrayList;
import java.util.List;

/**
 * In houses that are new, begun, in use, full and poor, each call with arguments at all edges: the answer
 * or the exception is that of the model, and calls that are refused, many in a row, change nothing.
 */
public final class RefusedCallsTest {
    private static final int LEAST = Integer.MIN_VALUE;
    private static final int MOST = Integer.MAX_VALUE;
    /** So few that a scene, a row of refused calls and a way to go on stay below 512 calls. */
    private static final int ROW = 40;
    private static final Checks CHECKS = new Checks();

    /** A call by its name and arguments. */
    private record Call(String name, int... arguments) {
        String told() {
            return Calls.told(name, arguments);
        }
    }

    /** A house told by the calls that make it. */
    private static final class Scene {
        final String name;
        final List<Call> calls = new ArrayList<>();

        Scene(String name) {
            this.name = name;
        }

        Scene then(String call, int... arguments) {
            calls.add(new Call(call, arguments));
            return this;
        }

        Scene often(int times, String call, int... arguments) {
            for (int i = 0; i < times; i++) {
                then(call, arguments);
            }
            return this;
        }

        Scene type(String word) {
            for (char letter : word.toCharArray()) {
                then("letter", letter);
            }
            return this;
        }

        Scene cut(int work, String... words) {
            for (String word : words) {
                type(word).then("block", work);
            }
            return this;
        }

        KeyblockHouse house() {
            KeyblockHouse house = new KeyblockHouse();
            for (Call call : calls) {
                Checks.answer(house, Calls.of(call.name(), call.arguments()));
            }
            return house;
        }

        Model model() {
            Model model = new Model();
            for (Call call : calls) {
                String answer = model.call(call.name(), call.arguments());
                if (answer.endsWith("Exception")) {
                    throw new AssertionError(name + " is made by calls that stand: " + call.told());
                }
            }
            return model;
        }
    }

    public static void main(String[] args) {
        Scene[] scenes = {fresh(), begun(), used(), nearlyFull(), full(), worn(), poor(0), poor(1), poor(19),
            poorAndWorn(0), poorAndWorn(4)};
        for (Scene scene : scenes) {
            look(scene);
        }
        CHECKS.finish("RefusedCallsTest");
    }

    // ---- the houses

    private static Scene fresh() {
        return new Scene("new");
    }

    private static Scene begun() {
        return new Scene("begun").often(2, "work").cut(1, "sumi").then("bid", 0, 0, 5).type("su");
    }

    private static Scene used() {
        Scene scene = new Scene("in use").often(4, "work").cut(0, "sumi", "indigo", "beni").cut(1, "sumi", "beni")
            .cut(2, "sumi");
        scene.then("line", 0, 0, 2).then("line", 0, 0, 4).then("line", 0, 1, 1).then("line", 1, 0, 3);
        scene.then("line", 2, 0, 300).then("pass", 13).then("seal", 0).then("seal", 2).then("damp", 5);
        scene.then("run", 0, 3).then("recut", 0, 0, 0).then("pass", 7).then("run", 0, 2).then("damp", 8);
        for (int i = 0; i < 5; i++) {
            scene.then("bid", i, 0, 10 + i % 2).then("bid", 9 - i, 1, 20 + i % 3);
        }
        return scene.then("sell", 0, 2).then("edict", 1).type("beni");
    }

    /** Six works, one with six blocks and eight lines, 400 sheets of another, 30 bids, the month 2000. */
    private static Scene full() {
        Scene scene = new Scene("full").often(6, "work").cut(0, "sumi", "beni", "gamboge", "sumi", "indigo", "prussian");
        for (int i = 0; i < 8; i++) {
            scene.then("line", 0, 5, 1 + i % 3);
        }
        scene.cut(1, "sumi").then("line", 1, 0, 1).then("seal", 1);
        scene.then("run", 1, 100).often(2, "bid", 7, 1, 500).then("sell", 1, 2).often(3, "run", 1, 100);
        scene.then("seal", 0).then("run", 0, 2).often(33, "pass", 60).then("pass", 20).cut(2, "sumi");
        for (int i = 0; i < 30; i++) {
            scene.then("bid", i % 10, 0, 1 + i % 4);
        }
        return scene.then("damp", 9).type("prussian");
    }

    /** A sheet, a letter, a bid, a month, a block and a line are all that is missing. */
    private static Scene nearlyFull() {
        Scene scene = new Scene("nearly full").often(5, "work").cut(0, "sumi", "beni", "beni", "beni", "beni");
        scene.often(7, "line", 0, 4, 300).cut(1, "sumi").then("line", 1, 0, 300).then("seal", 1);
        scene.often(3, "run", 1, 100).then("bid", 7, 1, 500).then("sell", 1, 1).then("run", 1, 99);
        for (int i = 0; i < 29; i++) {
            scene.then("bid", i % 10, 1, 2 + i % 5);
        }
        return scene.often(33, "pass", 60).then("pass", 19).then("edict", 4).type("prussia");
    }

    /** All lines are broken and some have marks; all sheets are sold. */
    private static Scene worn() {
        Scene scene = new Scene("worn").then("work").cut(0, "sumi", "beni");
        for (int i = 0; i < 8; i++) {
            scene.then("line", 0, i % 2, 1 + i % 3);
        }
        scene.then("seal", 0).then("run", 0, 4).then("recut", 0, 1, 2).then("recut", 0, 0, 0).then("run", 0, 4);
        scene.often(8, "bid", 2, 0, 3).then("sell", 0, 8).often(3, "bid", 4, 0, 1);
        return scene.then("recut", 0, 0, 1).type("s");
    }

    /** As Made.poor, by the same calls. */
    private static Scene poor(int left) {
        Scene scene = new Scene("poor by " + left).often(3, "work").cut(0, "sumi").cut(1, "sumi").cut(2, "sumi");
        scene.then("line", 0, 0, 1).then("seal", 0).then("seal", 2).often(4, "run", 0, 100);
        return scene.then("run", 2, 38 - left).type("sumi");
    }

    /** As Made.poorAndWorn, by the same calls. */
    private static Scene poorAndWorn(int left) {
        Scene scene = new Scene("poor and worn by " + left).then("work").cut(0, "sumi");
        scene.then("line", 0, 0, 1).then("line", 0, 0, 300).then("seal", 0);
        scene.then("work").cut(1, "sumi").then("seal", 1).often(4, "run", 1, 100);
        return scene.then("run", 0, 56 - left).type("beni");
    }

    // ---- the calls

    private static void look(Scene scene) {
        List<Call> refused = new ArrayList<>();
        for (Call call : calls(scene)) {
            String due = scene.model().call(call.name(), call.arguments());
            KeyblockHouse house = scene.house();
            CHECKS.due(scene.name + ", " + call.told(),
                Checks.answer(house, Calls.of(call.name(), call.arguments())), due);
            if (due.endsWith("Exception")) {
                refused.add(call);
            }
        }
        CHECKS.due(scene.name + ", calls refused", refused.size() > ROW, true);
        List<String> told = Told.all(scene::house);
        for (int from = 0; from < refused.size(); from += ROW) {
            changeNothing(scene, told, refused.subList(from, Math.min(from + ROW, refused.size())));
        }
    }

    private static void changeNothing(Scene scene, List<String> want, List<Call> row) {
        List<String> told = Told.all(() -> {
            KeyblockHouse house = scene.house();
            for (Call call : row) {
                Checks.answer(house, Calls.of(call.name(), call.arguments()));
            }
            return house;
        });
        String label = scene.name + ", behind " + row.get(0).told() + " up to " + row.get(row.size() - 1).told();
        CHECKS.due(label + ", ways to go on", told.size(), want.size());
        for (int i = 0; i < told.size() && i < want.size(); i++) {
            CHECKS.due(label, told.get(i), want.get(i));
        }
    }

    private static List<Call> calls(Scene scene) {
        List<Call> calls = new ArrayList<>();
        for (int sign : new int[] {0, 'a' - 1, 'a', 'm', 'z', 'z' + 1, 'A', 'Z', 225, 'a' + 256, 0xffff}) {
            calls.add(new Call("letter", sign));
        }
        calls.add(new Call("work"));
        calls.add(new Call("purse"));
        add(calls, "edict", edges(1, 6));
        add(calls, "damp", edges(0, 9));
        add(calls, "pass", edges(1, 60));
        int works = scene.model().workCount();
        add(calls, "bid", edges(0, 9), numbers(works), edges(1, 500));
        for (int work : numbers(works)) {
            addOfAWork(calls, scene.model(), work);
        }
        for (int work = 1; work < works - 1; work++) {
            addOfAWork(calls, scene.model(), work);
        }
        return calls;
    }

    private static void addOfAWork(List<Call> calls, Model model, int work) {
        int[] one = {work};
        int[] blocks = numbers(model.count(work, 0));
        int[] sheets = numbers(model.count(work, 1));
        add(calls, "block", one);
        add(calls, "seal", one);
        add(calls, "run", one, edges(1, 100));
        add(calls, "sell", one, edges(1, 30));
        add(calls, "about", one, edges(0, 4));
        add(calls, "line", one, blocks, edges(1, 300));
        add(calls, "recut", one, blocks, numbers(8));
        add(calls, "recut", one, blocks, new int[] {1, 2, 3, 4});
        add(calls, "breaks", one, blocks, edges(0, 7));
        for (String question : new String[] {"state", "stateAnew", "owner"}) {
            add(calls, question, one, sheets);
        }
        for (String question : new String[] {"broken", "marks", "strong", "off"}) {
            add(calls, question, one, sheets, blocks);
        }
    }

    /** Each call that takes one of these in each place. */
    private static void add(List<Call> calls, String name, int[]... values) {
        int[] at = new int[values.length];
        for (int place = 0; place < values.length; ) {
            int[] arguments = new int[values.length];
            for (int i = 0; i < values.length; i++) {
                arguments[i] = values[i][at[i]];
            }
            calls.add(new Call(name, arguments));
            place = 0;
            while (place < values.length && ++at[place] == values[place].length) {
                at[place++] = 0;
            }
        }
    }

    private static int[] edges(int least, int most) {
        return new int[] {LEAST, least - 1, least, most, most + 1, MOST};
    }

    /** The numbers at the edges of those from 0 of so many things. */
    private static int[] numbers(int count) {
        return count > 1 ? new int[] {LEAST, -1, 0, count - 1, count, MOST}
            : new int[] {LEAST, -1, 0, 1, MOST};
    }
}
