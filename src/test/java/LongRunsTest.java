/**
 * Runs of 512 calls on fresh houses, each answer beside that of the model. The calls are drawn by a
 * counter's digits, the same ones each time; each exception must be thrown by the class itself.
 */
public final class LongRunsTest {
    private static final int RUNS = 300;
    private static final int CALLS = 512;
    private static final String[] WORDS = {"sumi", "indigo", "beni", "gamboge", "prussian", "sum", "sumisumi"};
    private static final String[] QUESTIONS = {"broken", "marks", "state", "stateAnew", "breaks", "strong", "off",
        "owner", "about", "purse"};

    private final Checks checks;
    private final KeyblockHouse house = new KeyblockHouse();
    private final Model model = new Model();
    private final String name;
    private long seed;
    private int calls = 0;

    private LongRunsTest(Checks checks, int number) {
        this.checks = checks;
        this.name = "run " + number;
        this.seed = number * 7919L + 17;
    }

    public static void main(String[] args) {
        Checks checks = new Checks();
        for (int i = 0; i < RUNS; i++) {
            new LongRunsTest(checks, i).go();
        }
        checks.finish("LongRunsTest");
    }

    private void go() {
        int works = 1 + draw(3);
        for (int i = 0; i < works; i++) {
            call("work");
            for (int k = draw(4); k >= 0; k--) {
                cut(i, k == 0 && draw(3) == 0);
            }
        }
        while (calls < CALLS) {
            step();
        }
    }

    private int draw(int below) {
        seed = seed * 6364136223846793005L + 1442695040888963407L;
        return (int) ((seed >>> 33) % below);
    }

    /** Mostly a number below the bound, at times one at its edge or far off. */
    private int around(int below) {
        switch (draw(40)) {
            case 0: return -1;
            case 1: return below;
            case 2: return draw(2) == 0 ? Integer.MAX_VALUE : Integer.MIN_VALUE;
            case 3: return Math.max(0, below - 1);
            default: return draw(Math.max(1, below));
        }
    }

    private void cut(int work, boolean anyWord) {
        boolean first = model.count(work, 0) == 0;
        String word = anyWord ? WORDS[draw(WORDS.length)] : first ? "sumi" : WORDS[draw(5)];
        for (int i = 0; i < word.length(); i++) {
            call("letter", word.charAt(i));
        }
        call("block", work);
        for (int i = draw(5); i > 0 && model.count(work, 0) > 0; i--) {
            call("line", work, model.count(work, 0) - 1, 1 + draw(draw(2) == 0 ? 12 : 60));
        }
    }

    private void step() {
        int work = around(model.workCount());
        int blocks = model.count(work, 0);
        int kind = draw(100);
        if (kind < 4) {
            make(work, blocks);
        } else if (kind < 10) {
            call("seal", work);
        } else if (kind < 22) {
            call("run", work, draw(3) == 0 ? 1 + around(100) : 1 + draw(9));
        } else if (kind < 34) {
            call("recut", work, around(blocks), around(8));
        } else if (kind < 48) {
            call("bid", around(10), work, 1 + around(draw(2) == 0 ? 500 : 4));
        } else if (kind < 53) {
            call("sell", work, 1 + around(draw(2) == 0 ? 30 : 4));
        } else if (kind < 60) {
            tell();
        } else {
            ask(work, blocks);
        }
    }

    private void make(int work, int blocks) {
        switch (draw(4)) {
            case 0: call("work"); break;
            case 1: cut(work, draw(2) == 0); break;
            case 2: call("line", work, around(blocks), 1 + around(300)); break;
            default: call("letter", "az`{sumi\u0000\uffff".charAt(draw(10))); break;
        }
    }

    private void tell() {
        switch (draw(3)) {
            case 0: call("pass", 1 + around(draw(2) == 0 ? 60 : 6)); break;
            case 1: call("damp", around(10)); break;
            default: call("edict", 1 + around(6)); break;
        }
    }

    private void ask(int work, int blocks) {
        String question = QUESTIONS[draw(QUESTIONS.length)];
        int sheet = around(model.count(work, 1));
        if (question.equals("breaks")) {
            call(question, work, around(blocks), around(5));
        } else if (question.equals("about")) {
            call(question, work, around(5));
        } else {
            call(question, work, sheet, around(blocks));
        }
    }

    private void call(String call, int... a) {
        if (calls >= CALLS) {
            return;
        }
        calls++;
        String told = name + ", call " + calls + ": " + Calls.told(call, a);
        checks.due(told, Checks.answer(house, Calls.of(call, a)), model.call(call, a));
    }
}
