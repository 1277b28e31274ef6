import java.util.Arrays;
import java.util.function.Supplier;

/** Each sentence on edicts, seals, damp, runs and months that names an edge. */
public final class SealsAndRunsEdgesTest {
    private static final Checks CHECKS = new Checks();

    public static void main(String[] args) {
        edictRange();
        edictBefore();
        sealedOnce();
        sealNeedsABlock();
        sealUnderTheEdict();
        sealMonth();
        sealNoSuchWork();
        dampRange();
        dampBefore();
        sheetsRange();
        sealedWorksAlone();
        fourHundred();
        numbersByWorks();
        runMoney();
        runMoneyOfSixBlocks();
        runNoSuchWork();
        runOrder();
        monthsRange();
        month2000();
        passOrder();
        CHECKS.finish("SealsAndRunsEdgesTest");
    }

    // ---- edicts

    private static KeyblockHouse underEdict(int edict, String... words) {
        KeyblockHouse house = Made.blocks(words);
        house.edict(edict);
        return house;
    }

    private static void edictRange() {
        CHECKS.sentence("7 blocks: 1 to 6; IllegalArgumentException if blocks is out of range");
        for (int blocks = 1; blocks <= 6; blocks++) {
            CHECKS.due("edict " + blocks, new KeyblockHouse().edict(blocks), 6);
        }
        Supplier<KeyblockHouse> told = () -> underEdict(1, "sumi", "beni");
        for (int blocks : Edge.beside(1, 6)) {
            CHECKS.badArgument("edict " + blocks, told, h -> h.edict(blocks));
            CHECKS.badArgument("first edict " + blocks, KeyblockHouse::new, h -> h.edict(blocks));
            KeyblockHouse house = told.get();
            CHECKS.due("refused", Checks.answer(house, h -> h.edict(blocks)), "IllegalArgumentException");
            CHECKS.due("the edict stays", house.edict(2), 1);
        }
    }

    private static void edictBefore() {
        CHECKS.sentence("7 Returns the one before");
        KeyblockHouse house = new KeyblockHouse();
        CHECKS.due("6 at first", house.edict(6), 6);
        CHECKS.due("6 again", house.edict(1), 6);
        CHECKS.due("1", house.edict(6), 1);
        CHECKS.due("6", house.edict(5), 6);
    }

    // ---- seals

    private static void sealedOnce() {
        CHECKS.sentence("Terms, 8: a work takes the seal once; IllegalStateException if it is sealed");
        Supplier<KeyblockHouse> sealed = () -> Made.lines(1);
        CHECKS.badState("in the month of the seal, 0", sealed, h -> h.seal(0));
        CHECKS.badState("in the month 2000", Made.old(sealed), h -> h.seal(0));
        CHECKS.badState("printed", () -> Made.printed(1, "sumi"), h -> h.seal(0));
        KeyblockHouse house = sealed.get();
        house.pass(1);
        CHECKS.due("again", Checks.answer(house, h -> h.seal(0)), "IllegalStateException");
        CHECKS.due("the first seal stays", house.about(0, 2), 0);
        house.work();
        Made.cut(house, 1, "sumi");
        CHECKS.due("another work", house.seal(1), 1);
    }

    private static void sealNeedsABlock() {
        CHECKS.sentence("Terms, 8: if it has a block; IllegalStateException if it has no block");
        CHECKS.badState("no block", () -> Made.works(1), h -> h.seal(0));
        CHECKS.badState("no block, a block elsewhere", () -> {
            KeyblockHouse house = Made.blocks("sumi");
            house.work();
            return house;
        }, h -> h.seal(1));
        CHECKS.badState("a word that was none", () -> Made.blocks("beni"), h -> h.seal(0));
        CHECKS.due("one block", Made.blocks("sumi").seal(0), 0);
    }

    private static void sealUnderTheEdict() {
        CHECKS.sentence("Terms, 8: not more than the edict says; IllegalStateException if it has more");
        for (int edict = 1; edict <= 6; edict++) {
            int told = edict;
            for (int blocks = 1; blocks <= 6; blocks++) {
                String[] words = Arrays.copyOf(Made.SIX, blocks);
                String due = blocks <= edict ? "0" : "IllegalStateException";
                CHECKS.due(blocks + " under " + edict, Checks.answer(underEdict(edict, words), h -> h.seal(0)), due);
            }
            if (edict < 6) {
                String[] words = Arrays.copyOf(Made.SIX, edict + 1);
                CHECKS.badState("one more than " + edict, () -> underEdict(told, words), h -> h.seal(0));
            }
        }
        KeyblockHouse house = underEdict(1, "sumi", "beni");
        CHECKS.due("one too many", Checks.answer(house, h -> h.seal(0)), "IllegalStateException");
        house.edict(2);
        CHECKS.due("under another edict", house.seal(0), 0);
        house.edict(1);
        CHECKS.due("an edict behind the seal", house.run(0, 1), 0);
    }

    private static void sealMonth() {
        CHECKS.sentence("Terms, 8: the seal of the month in which it is sealed; returns the month");
        KeyblockHouse house = Made.blocks("sumi");
        CHECKS.due("none yet", house.about(0, 2), KeyblockHouse.NONE);
        CHECKS.due("the month 0", house.seal(0), 0);
        CHECKS.due("told", house.about(0, 2), 0);
        KeyblockHouse old = Made.old(() -> Made.blocks("sumi")).get();
        CHECKS.due("the month 2000", old.seal(0), 2000);
        CHECKS.due("told", old.about(0, 2), 2000);
    }

    private static void sealNoSuchWork() {
        CHECKS.sentence("8 IndexOutOfBoundsException as told");
        for (int work : Edge.besideNumbers(1)) {
            CHECKS.outside("work " + work, () -> Made.blocks("sumi"), h -> h.seal(work));
            CHECKS.outside("work, sealed " + work, () -> Made.lines(1), h -> h.seal(work));
        }
        for (int work : Edge.besideNumbers(6)) {
            CHECKS.outside("work of six " + work, () -> Made.works(6), h -> h.seal(work));
        }
        KeyblockHouse last = Made.works(6);
        Made.cut(last, 5, "sumi");
        CHECKS.due("the last of six", last.seal(5), 0);
    }

    // ---- damp

    private static void dampRange() {
        CHECKS.sentence("9 damp: 0 to 9; IllegalArgumentException if damp is out of range");
        for (int damp = 0; damp <= 9; damp++) {
            KeyblockHouse house = Made.blocks(Made.SIX);
            house.seal(0);
            CHECKS.due("damp " + damp, house.damp(damp), 0);
            house.run(0, 1);
            CHECKS.due("stands off " + damp, house.off(0, 0, 3), damp);
        }
        Supplier<KeyblockHouse> told = () -> {
            KeyblockHouse house = Made.printed(1, "sumi", "beni");
            house.damp(9);
            return house;
        };
        for (int damp : Edge.beside(0, 9)) {
            CHECKS.badArgument("damp " + damp, told, h -> h.damp(damp));
            CHECKS.badArgument("first damp " + damp, KeyblockHouse::new, h -> h.damp(damp));
            KeyblockHouse house = told.get();
            CHECKS.due("refused", Checks.answer(house, h -> h.damp(damp)), "IllegalArgumentException");
            CHECKS.due("the damp stays", house.damp(0), 9);
        }
    }

    private static void dampBefore() {
        CHECKS.sentence("9 Returns the one before");
        KeyblockHouse house = new KeyblockHouse();
        CHECKS.due("0 at first", house.damp(0), 0);
        CHECKS.due("0 again", house.damp(9), 0);
        CHECKS.due("9", house.damp(9), 9);
        CHECKS.due("9 again", house.damp(0), 9);
    }

    // ---- runs

    private static void sheetsRange() {
        CHECKS.sentence("10 sheets: 1 to 100; IllegalArgumentException if sheets is out of range");
        for (int sheets = 1; sheets <= 100; sheets++) {
            KeyblockHouse house = Made.lines(1);
            CHECKS.due("first of " + sheets, house.run(0, sheets), 0);
            CHECKS.due("sheets of " + sheets, house.about(0, 1), sheets);
            CHECKS.due("purse of " + sheets, house.purse(), 478 - sheets);
        }
        for (int sheets : Edge.beside(1, 100)) {
            CHECKS.badArgument("sheets " + sheets, () -> Made.lines(1), h -> h.run(0, sheets));
            CHECKS.badArgument("more sheets " + sheets, () -> Made.printed(3, "sumi", "beni"), h -> h.run(0, sheets));
        }
    }

    private static void sealedWorksAlone() {
        CHECKS.sentence("Terms, 10: only sealed works are printed; IllegalStateException if the work is not sealed");
        CHECKS.badState("no seal", () -> Made.blocks("sumi"), h -> h.run(0, 1));
        CHECKS.badState("no block", () -> Made.works(1), h -> h.run(0, 1));
        CHECKS.badState("100 without a seal", () -> Made.blocks(Made.SIX), h -> h.run(0, 100));
        CHECKS.badState("another work is sealed", () -> {
            KeyblockHouse house = Made.lines(1);
            house.work();
            Made.cut(house, 1, "sumi");
            return house;
        }, h -> h.run(1, 1));
        CHECKS.due("sealed in the month 0", Made.lines(1).run(0, 1), 0);
        KeyblockHouse old = Made.old(() -> Made.blocks("sumi")).get();
        old.seal(0);
        CHECKS.due("sealed in the month 2000", old.run(0, 1), 0);
    }

    private static KeyblockHouse sheets(int count) {
        KeyblockHouse house = Made.lines(1);
        for (int left = count; left > 0; left -= 100) {
            house.run(0, Math.min(left, 100));
        }
        return house;
    }

    private static void fourHundred() {
        CHECKS.sentence("Terms, 10: at most 400 of a work; IllegalStateException if there would be more than 400");
        CHECKS.due("300 and 100", sheets(300).run(0, 100), 300);
        CHECKS.due("399 and 1", sheets(399).run(0, 1), 399);
        CHECKS.due("301 and 99", sheets(301).run(0, 99), 301);
        CHECKS.badState("301 and 100", () -> sheets(301), h -> h.run(0, 100));
        CHECKS.badState("399 and 2", () -> sheets(399), h -> h.run(0, 2));
        CHECKS.badState("400 and 1", () -> sheets(400), h -> h.run(0, 1));
        CHECKS.badState("400 and 100", () -> sheets(400), h -> h.run(0, 100));
        CHECKS.due("400 told", sheets(400).about(0, 1), 400);
        KeyblockHouse rich = sheets(400);
        rich.bid(0, 0, 500);
        rich.bid(0, 0, 500);
        rich.sell(0, 2);
        CHECKS.due("money and sheets sold make no room", Checks.answer(rich, h -> h.run(0, 1)),
            "IllegalStateException");
        rich.work();
        Made.cut(rich, 1, "sumi");
        rich.seal(1);
        for (int i = 0; i < 4; i++) {
            CHECKS.due("400 of another work", rich.run(1, 100), 100 * i);
        }
    }

    private static void numbersByWorks() {
        CHECKS.sentence("Terms, 10: numbered by works, from 0, in the order in which they come; returns the first one");
        KeyblockHouse house = Made.works(2);
        for (int work = 0; work < 2; work++) {
            Made.cut(house, work, "sumi");
            house.seal(work);
        }
        CHECKS.due("first", house.run(0, 1), 0);
        CHECKS.due("first of the other", house.run(1, 5), 0);
        CHECKS.due("second", house.run(0, 1), 1);
        CHECKS.due("refused", Checks.answer(house, h -> h.run(0, 101)), "IllegalArgumentException");
        CHECKS.due("third", house.run(0, 7), 2);
        CHECKS.due("of the other", house.run(1, 1), 5);
        CHECKS.due("tenth", house.run(0, 1), 9);
    }

    private static void runMoney() {
        CHECKS.sentence("Terms, 10: a run for each sheet as much as the work has blocks; if the house has not so much");
        for (int money : new int[] {1, 2, 37, 38}) {
            KeyblockHouse just = Made.poor(money);
            int first = just.about(2, 1);
            CHECKS.due("just enough " + money, just.run(2, money), first);
            CHECKS.due("nothing left of " + money, just.purse(), 0);
            CHECKS.badState("one too little " + money, () -> Made.poor(money), h -> h.run(2, money + 1));
            CHECKS.badState("lines, one too little " + money, () -> Made.poorAndWorn(money),
                h -> h.run(0, money + 1));
        }
        CHECKS.badState("nothing", () -> Made.poor(0), h -> h.run(2, 1));
        CHECKS.badState("nothing for 100", () -> Made.poor(0), h -> h.run(2, 100));
        KeyblockHouse more = Made.poor(9);
        more.run(2, 8);
        CHECKS.due("one left", more.purse(), 1);
    }

    /** A work with six blocks and a sheet, and so much money, 574 to 1074. */
    private static KeyblockHouse sixBlocks(int money) {
        KeyblockHouse house = Made.blocks(Made.SIX);
        house.seal(0);
        house.run(0, 1);
        house.bid(0, 0, money - 374 - (money > 874 ? 500 : 0));
        house.sell(0, 1);
        if (money > 874) {
            house.bid(0, 0, 500);
            house.run(0, 1);
            house.sell(0, 1);
        }
        return house;
    }

    private static void runMoneyOfSixBlocks() {
        CHECKS.sentence("Terms, never less than 0; six blocks for each of 100 sheets");
        KeyblockHouse just = sixBlocks(600);
        CHECKS.due("purse", just.purse(), 600);
        CHECKS.due("just enough", just.run(0, 100), 1);
        CHECKS.due("nothing left", just.purse(), 0);
        KeyblockHouse more = sixBlocks(601);
        more.run(0, 100);
        CHECKS.due("one left", more.purse(), 1);
        CHECKS.badState("one too little", () -> sixBlocks(599), h -> h.run(0, 100));
        CHECKS.badState("six too little", () -> sixBlocks(594), h -> h.run(0, 100));
        CHECKS.due("a sheet less", sixBlocks(599).run(0, 99), 1);
        CHECKS.badState("five for a sheet", () -> {
            KeyblockHouse house = sixBlocks(599);
            house.run(0, 99);
            return house;
        }, h -> h.run(0, 1));
    }

    private static void runNoSuchWork() {
        CHECKS.sentence("10 IndexOutOfBoundsException as told");
        for (int work : Edge.besideNumbers(1)) {
            CHECKS.outside("work " + work, () -> Made.lines(1), h -> h.run(work, 1));
        }
        Supplier<KeyblockHouse> six = () -> {
            KeyblockHouse house = Made.works(6);
            Made.cut(house, 5, "sumi");
            house.seal(5);
            return house;
        };
        for (int work : Edge.besideNumbers(6)) {
            CHECKS.outside("work of six " + work, six, h -> h.run(work, 1));
        }
        CHECKS.due("the last of six", six.get().run(5, 1), 0);
    }

    private static void runOrder() {
        CHECKS.sentence("10 IndexOutOfBoundsException, IllegalArgumentException, IllegalStateException in this order");
        for (int sheets : new int[] {0, 101, Edge.LEAST, Edge.MOST}) {
            CHECKS.outside("no work, " + sheets, () -> Made.lines(1), h -> h.run(1, sheets));
            CHECKS.badArgument("no seal, " + sheets, () -> Made.blocks("sumi"), h -> h.run(0, sheets));
            CHECKS.badArgument("no block, " + sheets, () -> Made.works(1), h -> h.run(0, sheets));
            CHECKS.badArgument("400, " + sheets, () -> sheets(400), h -> h.run(0, sheets));
            CHECKS.badArgument("no money, " + sheets, () -> Made.poor(0), h -> h.run(2, sheets));
        }
        CHECKS.outside("no work, no money", () -> Made.poor(0), h -> h.run(3, 1));
    }

    // ---- months

    private static void monthsRange() {
        CHECKS.sentence("11 months: 1 to 60; IllegalArgumentException if months is out of range");
        for (int months = 1; months <= 60; months++) {
            CHECKS.due("months " + months, new KeyblockHouse().pass(months), months);
        }
        for (int months : Edge.beside(1, 60)) {
            CHECKS.badArgument("months " + months, () -> Made.printed(2, "sumi", "beni"), h -> h.pass(months));
            CHECKS.badArgument("without works " + months, KeyblockHouse::new, h -> h.pass(months));
        }
    }

    private static KeyblockHouse month(int month) {
        KeyblockHouse house = Made.printed(2, "sumi", "beni");
        for (int left = month; left > 0; left -= 60) {
            house.pass(Math.min(left, 60));
        }
        return house;
    }

    private static void month2000() {
        CHECKS.sentence("11 IllegalStateException if it would be above 2000; returns the month");
        CHECKS.due("1940 and 60", month(1940).pass(60), 2000);
        CHECKS.due("1999 and 1", month(1999).pass(1), 2000);
        CHECKS.due("1998 and 1", month(1998).pass(1), 1999);
        CHECKS.badState("1941 and 60", () -> month(1941), h -> h.pass(60));
        CHECKS.badState("1999 and 2", () -> month(1999), h -> h.pass(2));
        CHECKS.badState("1999 and 60", () -> month(1999), h -> h.pass(60));
        CHECKS.badState("2000 and 1", () -> month(2000), h -> h.pass(1));
        CHECKS.badState("2000 and 60", () -> month(2000), h -> h.pass(60));
        KeyblockHouse last = month(1990);
        CHECKS.due("refused", Checks.answer(last, h -> h.pass(11)), "IllegalStateException");
        CHECKS.due("the month stays", last.pass(10), 2000);
    }

    private static void passOrder() {
        CHECKS.sentence("11 IllegalArgumentException ahead of IllegalStateException");
        for (int months : Edge.beside(1, 60)) {
            CHECKS.badArgument("in the month 2000, " + months, () -> month(2000), h -> h.pass(months));
            CHECKS.badArgument("in the month 1999, " + months, () -> month(1999), h -> h.pass(months));
        }
    }
}
