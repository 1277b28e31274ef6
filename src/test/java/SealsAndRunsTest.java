import java.util.function.Supplier;

/** Promises 7 to 11: edicts, seals, damp, runs and months. */
public final class SealsAndRunsTest {
    private static final int LEAST = Integer.MIN_VALUE;
    private static final int MOST = Integer.MAX_VALUE;
    private static final Checks CHECKS = new Checks();

    public static void main(String[] args) {
        edict();
        seal();
        sealsRefused();
        damp();
        run();
        runsOfAWork();
        runsRefused();
        pass();
        CHECKS.finish("SealsAndRunsTest");
    }

    private static void edict() {
        KeyblockHouse house = new KeyblockHouse();
        CHECKS.due("7: first", house.edict(1), 6);
        CHECKS.due("7: then", house.edict(6), 1);
        CHECKS.due("7: the same", house.edict(6), 6);
        for (int blocks : new int[] {0, 7, -1, LEAST, MOST}) {
            CHECKS.badArgument("7: edict " + blocks, () -> {
                KeyblockHouse told = Made.blocks("sumi", "beni");
                told.edict(1);
                return told;
            }, h -> h.edict(blocks));
        }
        KeyblockHouse refused = new KeyblockHouse();
        refused.edict(3);
        CHECKS.due("7: refused", Checks.answer(refused, h -> h.edict(0)), "IllegalArgumentException");
        CHECKS.due("7: stays", refused.edict(4), 3);
    }

    private static void seal() {
        KeyblockHouse house = Made.blocks("sumi", "beni");
        house.pass(7);
        CHECKS.due("8: no seal yet", house.about(0, 2), KeyblockHouse.NONE);
        house.edict(2);
        CHECKS.due("8: as many as the edict says", house.seal(0), 7);
        house.pass(3);
        CHECKS.due("8: the month stays", house.about(0, 2), 7);
        CHECKS.due("8: costs nothing", house.purse(), 460);
        KeyblockHouse first = Made.blocks("sumi");
        CHECKS.due("8: in the month 0", first.seal(0), 0);
        CHECKS.due("8: tells the month 0", first.about(0, 2), 0);
        first.edict(1);
        CHECKS.due("8: an edict behind the seal stops no run", first.run(0, 1), 0);
    }

    private static void sealsRefused() {
        for (int none : new int[] {-1, 1, 6, LEAST, MOST}) {
            CHECKS.outside("8: work " + none, () -> Made.blocks("sumi"), h -> h.seal(none));
        }
        CHECKS.badState("8: sealed", () -> Made.lines(1), h -> h.seal(0));
        CHECKS.badState("8: sealed in another month", () -> {
            KeyblockHouse house = Made.lines(1);
            house.pass(1);
            return house;
        }, h -> h.seal(0));
        CHECKS.badState("8: no block", () -> Made.works(1), h -> h.seal(0));
        CHECKS.badState("8: more than the edict says", () -> {
            KeyblockHouse house = Made.blocks("sumi", "beni");
            house.edict(1);
            return house;
        }, h -> h.seal(0));
    }

    private static void damp() {
        KeyblockHouse house = new KeyblockHouse();
        CHECKS.due("9: first", house.damp(9), 0);
        CHECKS.due("9: then", house.damp(0), 9);
        CHECKS.due("9: then", house.damp(4), 0);
        for (int damp : new int[] {-1, 10, LEAST, MOST}) {
            CHECKS.badArgument("9: damp " + damp, KeyblockHouse::new, h -> h.damp(damp));
            CHECKS.due("9: refused", Checks.answer(house, h -> h.damp(damp)), "IllegalArgumentException");
            CHECKS.due("9: stays", house.damp(4), 4);
        }
    }

    private static void run() {
        KeyblockHouse house = Made.blocks("sumi", "beni", "indigo");
        house.work();
        Made.cut(house, 1, "sumi");
        house.seal(0);
        house.seal(1);
        CHECKS.due("10: first of the work 0", house.run(0, 2), 0);
        CHECKS.due("10: costs a block each", house.purse(), 420 - 6);
        CHECKS.due("10: first of the work 1", house.run(1, 1), 0);
        CHECKS.due("10: costs 1", house.purse(), 413);
        CHECKS.due("10: next of the work 0", house.run(0, 1), 2);
        CHECKS.due("10: next of the work 1", house.run(1, 100), 1);
        CHECKS.due("10: sheets of the work 0", house.about(0, 1), 3);
        CHECKS.due("10: sheets of the work 1", house.about(1, 1), 101);
        CHECKS.due("10: costs 100", house.purse(), 310);
        KeyblockHouse poor = Made.poor(30);
        CHECKS.due("10: for all there is", poor.run(2, 30), 8);
        CHECKS.due("10: nothing left", poor.purse(), 0);
    }

    private static void runsOfAWork() {
        KeyblockHouse house = Made.lines(1);
        for (int i = 0; i < 3; i++) {
            CHECKS.due("10: run " + i, house.run(0, 100), 100 * i);
        }
        CHECKS.due("10: 99 more", house.run(0, 99), 300);
        CHECKS.due("10: 401 in all", Checks.answer(house, h -> h.run(0, 2)), "IllegalStateException");
        CHECKS.due("10: 400 in all", house.run(0, 1), 399);
        CHECKS.due("10: one more", Checks.answer(house, h -> h.run(0, 1)), "IllegalStateException");
        CHECKS.due("10: sheets", house.about(0, 1), 400);
        CHECKS.due("10: state of the last", house.state(0, 399), 1);
        CHECKS.due("10: state of the next", house.about(0, 4), 1);
        CHECKS.due("10: purse", house.purse(), 78);
    }

    private static void runsRefused() {
        Supplier<KeyblockHouse> sealed = () -> Made.lines(1);
        Supplier<KeyblockHouse> open = () -> Made.blocks("sumi");
        for (int none : new int[] {-1, 1, 6, LEAST, MOST}) {
            CHECKS.outside("10: work " + none, sealed, h -> h.run(none, 1));
            CHECKS.outside("10: work ahead of sheets", sealed, h -> h.run(none, 0));
        }
        for (int sheets : new int[] {0, -1, 101, LEAST, MOST}) {
            CHECKS.badArgument("10: sheets " + sheets, sealed, h -> h.run(0, sheets));
            CHECKS.badArgument("10: sheets ahead of the seal", open, h -> h.run(0, sheets));
            CHECKS.badArgument("10: sheets ahead of 400", () -> Made.poor(20), h -> h.run(0, sheets));
            CHECKS.badArgument("10: sheets ahead of money", () -> Made.poor(0), h -> h.run(2, sheets));
        }
        CHECKS.badState("10: no seal", open, h -> h.run(0, 1));
        CHECKS.badState("10: no block, no seal", () -> Made.works(1), h -> h.run(0, 1));
        CHECKS.badState("10: above 400", () -> Made.poor(30), h -> h.run(0, 1));
        CHECKS.badState("10: money", () -> Made.poor(30), h -> h.run(2, 31));
        CHECKS.badState("10: no money", () -> Made.poor(0), h -> h.run(2, 1));
        CHECKS.badState("10: money for two blocks", () -> {
            KeyblockHouse house = Made.poor(29);
            Made.cut(house, 1, "beni");
            house.seal(1);
            return house;
        }, h -> h.run(1, 5));
    }

    private static void pass() {
        KeyblockHouse house = new KeyblockHouse();
        CHECKS.due("11: one", house.pass(1), 1);
        CHECKS.due("11: sixty", house.pass(60), 61);
        for (int i = 0; i < 32; i++) {
            house.pass(60);
        }
        CHECKS.due("11: up to 1999", house.pass(18), 1999);
        CHECKS.due("11: 2001", Checks.answer(house, h -> h.pass(2)), "IllegalStateException");
        CHECKS.due("11: up to 2000", house.pass(1), 2000);
        CHECKS.due("11: 2001", Checks.answer(house, h -> h.pass(1)), "IllegalStateException");
        for (int months : new int[] {0, -1, 61, LEAST, MOST}) {
            CHECKS.badArgument("11: months " + months, () -> Made.printed(2, "sumi", "beni"), h -> h.pass(months));
            CHECKS.due("11: range ahead of 2000", Checks.answer(house, h -> h.pass(months)),
                "IllegalArgumentException");
        }
        CHECKS.badState("11: above 2000", SealsAndRunsTest::old, h -> h.pass(60));
    }

    private static KeyblockHouse old() {
        KeyblockHouse house = Made.printed(2, "sumi", "beni");
        for (int i = 0; i < 33; i++) {
            house.pass(60);
        }
        return house;
    }
}
