import java.util.function.IntUnaryOperator;
import java.util.function.Supplier;

/** Each sentence on what can be asked that names an edge. */
public final class QuestionsEdgesTest {
    private static final int NONE = KeyblockHouse.NONE;
    private static final Checks CHECKS = new Checks();
    private static final String[] OF_A_SHEET = {"state", "stateAnew", "owner"};
    private static final String[] OF_A_SHEET_AND_BLOCK = {"broken", "marks", "strong", "off"};

    public static void main(String[] args) {
        noSheet();
        noSuchSheet();
        noSuchSheetOf400();
        noSuchBlock();
        noSuchWork();
        printedSoOften();
        lessThanItsStrength();
        brokenByBits();
        marksWhenPrinted();
        firstState();
        nextState();
        whichLinesOfWhichBlocks();
        stateOf400();
        stateAnewOfRunsAndRecuts();
        stateAnewAt512Calls();
        breaksOrder();
        breaksWithoutBroken();
        breaksBeyond();
        breaksNoSuch();
        strongSteps();
        strongAtLeast0();
        strongSincePrinted();
        off();
        offWhenPrinted();
        owner();
        aboutNothing();
        aboutFull();
        aboutRange();
        aboutOrder();
        purse();
        questionsChangeNothing();
        CHECKS.finish("QuestionsEdgesTest");
    }

    private static void dueOfSheets(String what, IntUnaryOperator ask, int... want) {
        for (int sheet = 0; sheet < want.length; sheet++) {
            CHECKS.due(what + ", sheet " + sheet, ask.applyAsInt(sheet), want[sheet]);
        }
    }

    // ---- what is not there

    private static void eachOfASheet(String label, Supplier<KeyblockHouse> made, int work, int sheet) {
        for (String question : OF_A_SHEET) {
            CHECKS.outside(question + ", " + label, made, Calls.of(question, work, sheet));
        }
    }

    private static void eachOfASheetAndBlock(String label, Supplier<KeyblockHouse> made, int work, int sheet,
            int block) {
        for (String question : OF_A_SHEET_AND_BLOCK) {
            CHECKS.outside(question + ", " + label, made, Calls.of(question, work, sheet, block));
        }
    }

    private static void noSheet() {
        CHECKS.sentence("Exceptions: there is no such sheet: none yet");
        for (int sheet : Edge.besideNumbers(0)) {
            eachOfASheet("sealed, sheet " + sheet, () -> Made.lines(1), 0, sheet);
            eachOfASheetAndBlock("sealed, sheet " + sheet, () -> Made.lines(1), 0, sheet, 0);
            eachOfASheet("no block, sheet " + sheet, () -> Made.works(1), 0, sheet);
            eachOfASheetAndBlock("no block, sheet " + sheet, () -> Made.works(1), 0, sheet, 0);
        }
    }

    private static void noSuchSheet() {
        CHECKS.sentence("Exceptions: there is no such sheet: beside those of the work");
        Supplier<KeyblockHouse> two = () -> {
            KeyblockHouse house = Made.printed(2, "sumi", "beni");
            house.work();
            Made.cut(house, 1, "sumi");
            house.seal(1);
            house.run(1, 3);
            return house;
        };
        for (int sheet : Edge.besideNumbers(2)) {
            eachOfASheet("sheet " + sheet, two, 0, sheet);
            eachOfASheetAndBlock("sheet " + sheet, two, 0, sheet, 1);
        }
        for (int sheet : Edge.besideNumbers(3)) {
            eachOfASheet("sheet of the other " + sheet, two, 1, sheet);
            eachOfASheetAndBlock("sheet of the other " + sheet, two, 1, sheet, 0);
        }
        CHECKS.due("the last", two.get().strong(0, 1, 1), 100);
        CHECKS.due("the last of the other", two.get().strong(1, 2, 0), 100);
        Supplier<KeyblockHouse> refused = () -> {
            KeyblockHouse house = two.get();
            Checks.answer(house, h -> h.run(0, 101));
            return house;
        };
        eachOfASheet("a run refused", refused, 0, 2);
    }

    private static void noSuchSheetOf400() {
        CHECKS.sentence("Exceptions: there is no such sheet: of 400");
        Supplier<KeyblockHouse> full = () -> Made.poor(38);
        for (int sheet : Edge.besideNumbers(400)) {
            eachOfASheet("sheet " + sheet, full, 0, sheet);
            eachOfASheetAndBlock("sheet " + sheet, full, 0, sheet, 0);
        }
        KeyblockHouse house = full.get();
        CHECKS.due("state of the last", house.state(0, 399), 1);
        CHECKS.due("state anew of the last", house.stateAnew(0, 399), 1);
        CHECKS.due("the last is not sold", house.owner(0, 399), NONE);
        CHECKS.due("the last is broken", house.broken(0, 399, 0), 1);
        CHECKS.due("no marks on the last", house.marks(0, 399, 0), 0);
        CHECKS.due("the last is strong", house.strong(0, 399, 0), 100);
        CHECKS.due("the last stands off", house.off(0, 399, 0), 0);
    }

    private static void noSuchBlock() {
        CHECKS.sentence("Exceptions: there is no such block");
        Supplier<KeyblockHouse> two = () -> Made.printed(2, "sumi", "beni");
        for (int block : Edge.besideNumbers(2)) {
            eachOfASheetAndBlock("block of two " + block, two, 0, 1, block);
        }
        Supplier<KeyblockHouse> six = () -> Made.printed(2, Made.SIX);
        for (int block : Edge.besideNumbers(6)) {
            eachOfASheetAndBlock("block of six " + block, six, 0, 0, block);
        }
        CHECKS.due("the last of six", six.get().broken(0, 1, 5), 0);
        CHECKS.due("the last of six", six.get().marks(0, 1, 5), 0);
        CHECKS.due("the last of six", six.get().strong(0, 1, 5), 100);
        CHECKS.due("the last of six", six.get().off(0, 1, 5), 0);
    }

    private static void noSuchWork() {
        CHECKS.sentence("Exceptions: there is no such work");
        Supplier<KeyblockHouse> one = () -> Made.printed(2, "sumi", "beni");
        for (int work : Edge.besideNumbers(1)) {
            eachOfASheet("work " + work, one, work, 0);
            eachOfASheetAndBlock("work " + work, one, work, 0, 0);
        }
    }

    // ---- scars

    private static void printedSoOften() {
        CHECKS.sentence("Terms: a line has printed so often, 0 at first, and once more with each sheet of the work");
        KeyblockHouse house = Made.lines(1, 2);
        house.work();
        Made.cut(house, 1, "sumi");
        house.line(1, 0, 1);
        house.seal(1);
        house.run(1, 100);
        house.pass(60);
        CHECKS.due("0 at first, whatever the other work prints", house.breaks(0, 0, 0), 0);
        house.run(0, 2);
        dueOfSheets("first sheets", s -> house.broken(0, s, 0), 0, 1);
        house.run(1, 1);
        CHECKS.due("of the work 0", house.recut(0, 0, 0), 2);
        CHECKS.due("of the work 1", house.recut(1, 0, 0), 101);
        house.run(0, 1);
        CHECKS.due("a mark of the work 0", house.marks(0, 2, 0), 1);
        CHECKS.due("the other line", house.recut(0, 0, 1), 3);
    }

    private static void lessThanItsStrength() {
        CHECKS.sentence("Terms, 14: on the sheets ahead of which that is less than its strength, it is whole");
        for (int strength : new int[] {1, 2, 99, 100, 101, 299, 300}) {
            KeyblockHouse house = Made.lines(strength);
            for (int i = 0; i < 4; i++) {
                house.run(0, 100);
            }
            CHECKS.due("first sheet of " + strength, house.broken(0, 0, 0), 0);
            CHECKS.due("last whole one of " + strength, house.broken(0, strength - 1, 0), 0);
            CHECKS.due("first broken one of " + strength, house.broken(0, strength, 0), 1);
            CHECKS.due("last sheet of " + strength, house.broken(0, 399, 0), 1);
        }
        KeyblockHouse parts = Made.lines(3);
        parts.run(0, 2);
        parts.pass(60);
        parts.run(0, 1);
        parts.run(0, 1);
        dueOfSheets("in parts", s -> parts.broken(0, s, 0), 0, 0, 0, 1);
    }

    private static void brokenByBits() {
        CHECKS.sentence("14 the lines by bits, the bit k for the line k");
        for (int line = 0; line < 8; line++) {
            int[] strengths = {9, 9, 9, 9, 9, 9, 9, 9};
            strengths[line] = 1;
            KeyblockHouse house = Made.lines(strengths);
            house.run(0, 2);
            CHECKS.due("line " + line, house.broken(0, 1, 0), 1 << line);
        }
        KeyblockHouse all = Made.lines(1, 1, 1, 1, 1, 1, 1, 1);
        all.run(0, 2);
        dueOfSheets("all eight", s -> all.broken(0, s, 0), 0, 255);
        KeyblockHouse none = Made.printed(100, "sumi", "beni");
        dueOfSheets("no line", s -> none.broken(0, s * 99, 1), 0, 0);
    }

    private static void marksWhenPrinted() {
        CHECKS.sentence("15 which lines of a block had a mark when a sheet was printed; by bits");
        for (int recut = 0; recut < 8; recut++) {
            int line = recut;
            KeyblockHouse house = Made.lines(1, 1, 1, 1, 1, 1, 1, 1);
            house.run(0, 1);
            house.recut(0, 0, line);
            dueOfSheets("behind the last sheet, line " + line, s -> house.marks(0, s, 0), 0);
            house.run(0, 1);
            dueOfSheets("line " + line, s -> house.marks(0, s, 0), 0, 1 << line);
            CHECKS.due("recut refused", Checks.answer(house, h -> h.recut(0, 0, 9)), "IndexOutOfBoundsException");
            house.run(0, 1);
            dueOfSheets("for good, line " + line, s -> house.marks(0, s, 0), 0, 1 << line, 1 << line);
        }
        KeyblockHouse none = Made.printed(100, "sumi", "beni");
        dueOfSheets("no line", s -> none.marks(0, s * 99, 1), 0, 0);
        KeyblockHouse blocks = Made.blocks("sumi", "beni");
        blocks.line(0, 0, 1);
        blocks.line(0, 1, 1);
        blocks.seal(0);
        blocks.run(0, 1);
        blocks.recut(0, 1, 0);
        blocks.run(0, 1);
        CHECKS.due("of another block", blocks.marks(0, 1, 0), 0);
        CHECKS.due("of the block", blocks.marks(0, 1, 1), 1);
    }

    // ---- states

    private static void dueStates(String what, KeyblockHouse house, int... want) {
        dueOfSheets("16 " + what, s -> house.state(0, s), want);
        dueOfSheets("17 " + what, s -> house.stateAnew(0, s), want);
    }

    private static void firstState() {
        CHECKS.sentence("Terms, 16, 17: the state of a sheet is 0 for the first one of its work");
        KeyblockHouse house = Made.lines(1);
        house.work();
        Made.cut(house, 1, "sumi");
        house.line(1, 0, 1);
        house.seal(1);
        house.run(0, 5);
        house.run(1, 1);
        dueStates("work 0", house, 0, 1, 1, 1, 1);
        CHECKS.due("first of the work 1", house.state(1, 0), 0);
        CHECKS.due("first of the work 1 anew", house.stateAnew(1, 0), 0);
        dueStates("without lines", Made.printed(1, "sumi"), 0);
    }

    private static void nextState() {
        CHECKS.sentence("Terms, 16, 17: 1 more if it has other scars than the one ahead of it, otherwise the same");
        KeyblockHouse many = Made.lines(1, 1, 2, 4);
        many.run(0, 6);
        dueStates("1 more for two lines at once", many, 0, 1, 2, 2, 3, 3);
        KeyblockHouse plain = Made.printed(4, Made.SIX);
        plain.pass(60);
        plain.damp(9);
        plain.run(0, 1);
        plain.bid(0, 0, 5);
        plain.sell(0, 1);
        dueStates("months, damp and owners are no scars", plain, 0, 0, 0, 0, 0);
        KeyblockHouse mark = Made.lines(1);
        mark.run(0, 1);
        mark.recut(0, 0, 0);
        mark.run(0, 1);
        mark.recut(0, 0, 0);
        mark.run(0, 2);
        mark.recut(0, 0, 0);
        mark.run(0, 1);
        dueStates("by a mark alone, the same, broken, whole as an earlier one", mark, 0, 1, 1, 2, 3);
        KeyblockHouse refused = Made.lines(2);
        refused.run(0, 1);
        CHECKS.due("not yet", Checks.answer(refused, h -> h.recut(0, 0, 0)), "IllegalStateException");
        refused.run(0, 1);
        dueStates("a recut refused", refused, 0, 0);
    }

    private static void whichLinesOfWhichBlocks() {
        CHECKS.sentence("Terms: the scars are which lines of which blocks");
        KeyblockHouse blocks = Made.blocks("sumi", "beni");
        blocks.line(0, 0, 1);
        blocks.line(0, 1, 1);
        blocks.seal(0);
        dueTurns("blocks", blocks, new int[][] {{0, 0}, {1, 0}});
        dueOfSheets("block 0", s -> blocks.broken(0, s, 0), 0, 0, 0, 1, 0, 1);
        dueOfSheets("block 1", s -> blocks.broken(0, s, 1), 0, 0, 1, 0, 1, 0);
        KeyblockHouse lines = Made.lines(1, 1);
        dueTurns("lines", lines, new int[][] {{0, 0}, {0, 1}});
        KeyblockHouse last = Made.blocks(Made.SIX);
        for (int i = 0; i < 8; i++) {
            last.line(0, 5, i == 7 ? 1 : 300);
        }
        last.seal(0);
        last.run(0, 3);
        dueStates("the last line of the last block", last, 0, 1, 1);
    }

    /** Both places get a mark; then the one is broken and the other whole, by turns. */
    private static void dueTurns(String what, KeyblockHouse house, int[][] places) {
        house.run(0, 1);
        house.recut(0, places[0][0], places[0][1]);
        house.recut(0, places[1][0], places[1][1]);
        house.run(0, 1);
        for (int turn = 0; turn < 4; turn++) {
            house.recut(0, places[turn % 2][0], places[turn % 2][1]);
            house.run(0, 1);
        }
        dueStates("as many, but others: " + what, house, 0, 1, 2, 3, 4, 5);
    }

    /** Sheets that are whole and broken by turns, up to 400 of them; money comes from two bids. */
    private static KeyblockHouse turns(int sheets) {
        KeyblockHouse house = Made.lines(1);
        house.run(0, 2);
        house.bid(0, 0, 500);
        house.bid(0, 0, 500);
        house.sell(0, 2);
        for (int i = 2; i < sheets; i += 2) {
            house.recut(0, 0, 0);
            house.run(0, 2);
        }
        return house;
    }

    private static void stateOf400() {
        CHECKS.sentence("Terms, 16, 17: 400 sheets, each with other scars than the one ahead of it");
        KeyblockHouse house = turns(400);
        for (int sheet : new int[] {0, 1, 2, 3, 198, 199, 200, 255, 256, 397, 398, 399}) {
            CHECKS.due("sheet " + sheet, house.state(0, sheet), sheet);
            CHECKS.due("anew, sheet " + sheet, house.stateAnew(0, sheet), sheet);
        }
        CHECKS.due("the next would be the same", house.about(0, 4), 399);
        house.recut(0, 0, 0);
        CHECKS.due("the next would be whole", house.about(0, 4), 400);
        CHECKS.due("not printed", Checks.answer(house, h -> h.run(0, 1)), "IllegalStateException");
    }

    private static void stateAnewOfRunsAndRecuts() {
        CHECKS.sentence("17 the same, found from all runs and lines recut once more");
        KeyblockHouse house = Made.lines(2, 3);
        CHECKS.due("first", house.run(0, 3), 0);
        house.recut(0, 0, 0);
        house.recut(0, 0, 1);
        dueStates("recut behind the last sheet", house, 0, 0, 1);
        house.run(0, 2);
        house.recut(0, 0, 0);
        CHECKS.due("refused", Checks.answer(house, h -> h.recut(0, 0, 1)), "IllegalStateException");
        CHECKS.due("refused", Checks.answer(house, h -> h.run(0, 0)), "IllegalArgumentException");
        house.run(0, 3);
        dueStates("all", house, 0, 0, 1, 2, 2, 2, 3, 4);
        for (int i = 0; i < 3; i++) {
            CHECKS.due("asked again", house.stateAnew(0, 7), 4);
            CHECKS.due("asked in between", house.stateAnew(0, 0), 0);
        }
        house.run(0, 1);
        CHECKS.due("goes on", house.state(0, 8), 4);
        CHECKS.due("goes on anew", house.stateAnew(0, 8), 4);
    }

    private static void stateAnewAt512Calls() {
        CHECKS.sentence("What it is: an object is used for at most 512 calls");
        KeyblockHouse house = Made.lines(1);
        house.run(0, 4);
        for (int i = 0; i < 4; i++) {
            house.bid(i, 0, 500);
        }
        house.sell(0, 30);
        // A work, four letters, a block, a line, a seal, a run, four bids and a sale.
        int calls = 14;
        while (calls < 510) {
            house.recut(0, 0, 0);
            house.run(0, calls == 508 ? 2 : 1);
            calls += 2;
        }
        CHECKS.due("the 511th call", house.stateAnew(0, 252), 3);
        CHECKS.due("the 512th call", house.state(0, 252), 3);
    }

    // ---- the order in which lines break

    private static void dueOrder(String what, KeyblockHouse house, int block, int... want) {
        for (int place = 0; place <= 9; place++) {
            int due = place < want.length ? want[place] : NONE;
            CHECKS.due(what + ", place " + place, house.breaks(0, block, place), due);
        }
    }

    private static void breaksOrder() {
        CHECKS.sentence("18 by how often they can print yet, of alike ones by numbers");
        dueOrder("falling", Made.lines(300, 299, 200, 100, 4, 3, 2, 1), 0, 7, 6, 5, 4, 3, 2, 1, 0);
        dueOrder("rising", Made.lines(1, 2, 3, 4, 5, 6, 7, 300), 0, 0, 1, 2, 3, 4, 5, 6, 7);
        dueOrder("alike", Made.lines(300, 300, 300, 300, 300, 300, 300, 300), 0, 0, 1, 2, 3, 4, 5, 6, 7);
        dueOrder("two alike at the end", Made.lines(3, 1, 3), 0, 1, 0, 2);
        KeyblockHouse house = Made.lines(5, 3);
        house.run(0, 3);
        house.recut(0, 0, 1);
        dueOrder("not by strength alone", house, 0, 0, 1);
        house.run(0, 1);
        dueOrder("once and twice yet", house, 0, 0, 1);
        KeyblockHouse alike = Made.lines(4, 2);
        alike.run(0, 2);
        alike.recut(0, 0, 1);
        dueOrder("alike by what is left", alike, 0, 0, 1);
        KeyblockHouse open = Made.blocks("sumi");
        open.line(0, 0, 2);
        open.line(0, 0, 1);
        dueOrder("not sealed", open, 0, 1, 0);
    }

    private static void breaksWithoutBroken() {
        CHECKS.sentence("18 lines that would be broken on the next sheet are not in it");
        KeyblockHouse house = Made.lines(1, 2, 3);
        dueOrder("no sheet", house, 0, 0, 1, 2);
        house.run(0, 1);
        dueOrder("the first would be broken", house, 0, 1, 2);
        house.run(0, 1);
        dueOrder("one that prints once yet is in it", house, 0, 2);
        house.run(0, 1);
        dueOrder("none", house, 0);
        house.run(0, 1);
        dueOrder("all broken", house, 0);
        house.recut(0, 0, 0);
        dueOrder("recut", house, 0, 0);
        KeyblockHouse last = Made.lines(300);
        for (int i = 0; i < 2; i++) {
            last.run(0, 100);
        }
        last.run(0, 99);
        dueOrder("300, once yet", last, 0, 0);
        last.run(0, 1);
        dueOrder("300, no more", last, 0);
    }

    private static void breaksBeyond() {
        CHECKS.sentence("18 place: 0 for the first one; NONE beyond");
        int[] beyond = {1, 2, 7, 8, 9, 255, 256, 65536, Edge.MOST - 1, Edge.MOST};
        for (int place : beyond) {
            CHECKS.due("of one, place " + place, Made.lines(300).breaks(0, 0, place), NONE);
            CHECKS.due("of none, place " + place, Made.blocks("sumi").breaks(0, 0, place), NONE);
        }
        CHECKS.due("of none, place 0", Made.blocks("sumi").breaks(0, 0, 0), NONE);
        CHECKS.due("of one, place 0", Made.lines(300).breaks(0, 0, 0), 0);
        KeyblockHouse eight = Made.lines(1, 1, 1, 1, 1, 1, 1, 1);
        CHECKS.due("the last of eight", eight.breaks(0, 0, 7), 7);
        CHECKS.due("beyond eight", eight.breaks(0, 0, 8), NONE);
    }

    private static void breaksNoSuch() {
        CHECKS.sentence("18 IndexOutOfBoundsException as told, of the work or the block, or if place is below 0");
        Supplier<KeyblockHouse> two = () -> {
            KeyblockHouse house = Made.blocks("sumi", "beni");
            house.line(0, 1, 3);
            return house;
        };
        for (int place : new int[] {-1, -2, -8, -256, -65536, Edge.LEAST, Edge.LEAST + 1}) {
            CHECKS.outside("place " + place, two, h -> h.breaks(0, 1, place));
            CHECKS.outside("no line, place " + place, two, h -> h.breaks(0, 0, place));
        }
        for (int block : Edge.besideNumbers(2)) {
            CHECKS.outside("block " + block, two, h -> h.breaks(0, block, 0));
        }
        for (int block : Edge.besideNumbers(0)) {
            CHECKS.outside("no block, " + block, () -> Made.works(1), h -> h.breaks(0, block, 0));
        }
        for (int work : Edge.besideNumbers(1)) {
            CHECKS.outside("work " + work, two, h -> h.breaks(work, 0, 0));
            CHECKS.outside("work, beyond " + work, two, h -> h.breaks(work, 0, 8));
        }
        CHECKS.due("the last of six", Made.blocks(Made.SIX).breaks(0, 5, 0), NONE);
    }

    // ---- colours

    private static KeyblockHouse fivePigments(int month) {
        KeyblockHouse house = Made.printed(1, "sumi", "indigo", "beni", "gamboge", "prussian");
        for (int left = month; left > 0; left -= 60) {
            house.pass(Math.min(left, 60));
        }
        return house;
    }

    private static void dueStrong(int block, int months, int want) {
        CHECKS.due("block " + block + " behind " + months, fivePigments(months).strong(0, 0, block), want);
    }

    private static void strongSteps() {
        CHECKS.sentence("Terms, 19: rate times months, divided by 12, rounded down; the rates are 0, 3, 9, 4 and 1");
        int[] steps = {0, 4, 2, 3, 12};
        for (int block = 0; block < 5; block++) {
            dueStrong(block, 0, 100);
            dueStrong(block, 1, 100);
            if (block > 0) {
                dueStrong(block, steps[block] - 1, 100);
                dueStrong(block, steps[block], 99);
            }
        }
        dueStrong(1, 7, 99);
        dueStrong(1, 8, 98);
        dueStrong(2, 3, 98);
        dueStrong(2, 4, 97);
        dueStrong(2, 5, 97);
        dueStrong(2, 12, 91);
        dueStrong(3, 5, 99);
        dueStrong(3, 6, 98);
        dueStrong(4, 23, 99);
        dueStrong(4, 24, 98);
        dueStrong(0, 2000, 100);
    }

    private static void strongAtLeast0() {
        CHECKS.sentence("Terms, 19: at least 0");
        int[] last = {0, 399, 133, 299, 1199};
        for (int block = 1; block < 5; block++) {
            dueStrong(block, last[block], 1);
            dueStrong(block, last[block] + 1, 0);
            dueStrong(block, last[block] + 13, 0);
            dueStrong(block, 2000, 0);
        }
        dueStrong(0, 1200, 100);
    }

    private static void strongSincePrinted() {
        CHECKS.sentence("Terms, 19: the months since it was printed; now");
        KeyblockHouse house = Made.blocks("sumi", "beni");
        house.pass(60);
        house.seal(0);
        house.pass(60);
        house.run(0, 1);
        CHECKS.due("just printed", house.strong(0, 0, 1), 100);
        house.pass(1);
        house.run(0, 1);
        CHECKS.due("a month", house.strong(0, 0, 1), 100);
        house.pass(1);
        CHECKS.due("two months", house.strong(0, 0, 1), 99);
        CHECKS.due("a month, the next sheet", house.strong(0, 1, 1), 100);
        house.bid(0, 0, 1);
        house.sell(0, 1);
        CHECKS.due("sold", house.strong(0, 0, 1), 99);
        KeyblockHouse old = Made.old(() -> Made.blocks("sumi", "beni")).get();
        old.seal(0);
        old.run(0, 1);
        CHECKS.due("printed in the month 2000", old.strong(0, 0, 1), 100);
    }

    private static final int[][] OFF = {
        {0, 0, 0, 0, 0, 0},
        {0, 0, 0, 1, 1, 1},
        {0, 0, 1, 2, 2, 3},
        {0, 1, 2, 3, 4, 5},
        {0, 1, 2, 4, 5, 6},
        {0, 1, 3, 5, 6, 8},
        {0, 2, 4, 6, 8, 10},
        {0, 2, 4, 7, 9, 11},
        {0, 2, 5, 8, 10, 13},
        {0, 3, 6, 9, 12, 15}};

    private static void off() {
        CHECKS.sentence("Terms, 20: the damp times the block's number, divided by 3, rounded down");
        KeyblockHouse house = Made.blocks(Made.SIX);
        house.seal(0);
        for (int damp = 0; damp <= 9; damp++) {
            house.damp(damp);
            house.run(0, 1);
            for (int block = 0; block < 6; block++) {
                CHECKS.due("damp " + damp + ", block " + block, house.off(0, damp, block), OFF[damp][block]);
            }
        }
    }

    private static void offWhenPrinted() {
        CHECKS.sentence("Terms, 20: the damp, as it was told last when the sheet was printed");
        KeyblockHouse house = Made.blocks(Made.SIX);
        house.damp(9);
        house.seal(0);
        house.run(0, 1);
        house.damp(0);
        CHECKS.due("told behind it", house.off(0, 0, 5), 15);
        house.run(0, 1);
        CHECKS.due("0 again", house.off(0, 1, 5), 0);
        house.damp(7);
        house.damp(3);
        CHECKS.due("refused", Checks.answer(house, h -> h.damp(10)), "IllegalArgumentException");
        house.run(0, 2);
        dueOfSheets("the last one told", s -> house.off(0, s, 5), 15, 0, 5, 5);
    }

    // ---- owners, works, the purse

    private static void owner() {
        CHECKS.sentence("21 the person; NONE if it is not sold");
        KeyblockHouse house = Made.printed(2, "sumi");
        dueOfSheets("none sold", s -> house.owner(0, s), NONE, NONE);
        house.bid(0, 0, 1);
        dueOfSheets("a bid alone", s -> house.owner(0, s), NONE, NONE);
        house.sell(0, 30);
        dueOfSheets("one sold to the person 0", s -> house.owner(0, s), 0, NONE);
        house.bid(9, 0, 500);
        house.sell(0, 30);
        dueOfSheets("two sold", s -> house.owner(0, s), 0, 9);
        house.run(0, 1);
        dueOfSheets("a new one", s -> house.owner(0, s), 0, 9, NONE);
    }

    private static void dueAbout(String what, KeyblockHouse house, int work, int... want) {
        for (int i = 0; i < want.length; i++) {
            CHECKS.due(what + ", what " + i, house.about(work, i), want[i]);
        }
    }

    private static void aboutNothing() {
        CHECKS.sentence("22 no blocks, no sheets, no seal, NONE, no bids, 0 without a sheet");
        KeyblockHouse house = Made.works(6);
        dueAbout("begun", house, 5, 0, 0, NONE, 0, 0);
        Made.cut(house, 5, "sumi");
        house.line(5, 0, 1);
        dueAbout("a block with a line", house, 5, 1, 0, NONE, 0, 0);
        house.seal(5);
        dueAbout("sealed in the month 0", house, 5, 1, 0, 0, 0, 0);
        house.run(5, 1);
        dueAbout("a sheet", house, 5, 1, 1, 0, 0, 1);
        dueAbout("the first work", house, 0, 0, 0, NONE, 0, 0);
    }

    private static void aboutFull() {
        CHECKS.sentence("22 six blocks, 400 sheets, the month 2000, 30 bids, the state that the next sheet would have");
        KeyblockHouse house = Made.old(() -> Made.blocks(Made.SIX)).get();
        house.seal(0);
        for (int i = 0; i < 30; i++) {
            house.bid(i % 10, 0, 500);
        }
        dueAbout("full", house, 0, 6, 0, 2000, 30, 0);
        KeyblockHouse sheets = Made.poor(38);
        dueAbout("400", sheets, 0, 1, 400, 0, 0, 1);
        sheets.recut(0, 0, 0);
        CHECKS.due("recut", sheets.about(0, 4), 2);
        KeyblockHouse next = Made.lines(2);
        next.run(0, 1);
        CHECKS.due("whole as the sheet ahead", next.about(0, 4), 0);
        next.run(0, 1);
        CHECKS.due("would be broken", next.about(0, 4), 1);
        next.run(0, 1);
        CHECKS.due("broken as the sheet ahead", next.about(0, 4), 1);
        CHECKS.due("asked again", next.about(0, 4), 1);
    }

    private static void aboutRange() {
        CHECKS.sentence("22 what: 0 to 4; IllegalArgumentException if what is out of range");
        for (int what : Edge.beside(0, 4)) {
            CHECKS.badArgument("what " + what, () -> Made.lines(1), h -> h.about(0, what));
            CHECKS.badArgument("of nothing, what " + what, () -> Made.works(1), h -> h.about(0, what));
        }
    }

    private static void aboutOrder() {
        CHECKS.sentence("22 IndexOutOfBoundsException ahead of IllegalArgumentException");
        for (int what : Edge.beside(0, 4)) {
            CHECKS.outside("work 1, what " + what, () -> Made.lines(1), h -> h.about(1, what));
            CHECKS.outside("no work, what " + what, KeyblockHouse::new, h -> h.about(0, what));
        }
    }

    private static void purse() {
        CHECKS.sentence("23 how much the house has; never less than 0");
        CHECKS.due("500 at first", new KeyblockHouse().purse(), 500);
        CHECKS.due("nothing left", Made.poor(0).purse(), 0);
        KeyblockHouse poor = Made.poor(1);
        CHECKS.due("a run of 2", Checks.answer(poor, h -> h.run(2, 2)), "IllegalStateException");
        CHECKS.due("a line", Checks.answer(poor, h -> h.line(1, 0, 1)), "IllegalStateException");
        CHECKS.due("a line recut", Checks.answer(poor, h -> h.recut(0, 0, 0)), "IllegalStateException");
        CHECKS.due("1 is still there", poor.purse(), 1);
        KeyblockHouse none = Made.works(1);
        none.block(0);
        none.edict(1);
        none.damp(1);
        none.pass(60);
        none.bid(0, 0, 500);
        none.sell(0, 30);
        CHECKS.due("nothing costs or brings", none.purse(), 500);
    }

    private static void questionsChangeNothing() {
        CHECKS.sentence("Promises 14 to 23: what is asked changes nothing");
        Supplier<KeyblockHouse> made = () -> {
            KeyblockHouse house = Made.blocks("sumi", "beni");
            house.line(0, 0, 2);
            house.line(0, 1, 1);
            house.seal(0);
            house.run(0, 2);
            house.recut(0, 1, 0);
            house.run(0, 2);
            house.bid(3, 0, 7);
            house.recut(0, 0, 0);
            house.letter('b');
            return house;
        };
        for (int sheet = 0; sheet < 4; sheet++) {
            for (String question : OF_A_SHEET) {
                CHECKS.changesNothing(question + " " + sheet, made, Calls.of(question, 0, sheet));
            }
            for (String question : OF_A_SHEET_AND_BLOCK) {
                CHECKS.changesNothing(question + " " + sheet, made, Calls.of(question, 0, sheet, sheet % 2));
            }
        }
        for (int what = 0; what <= 4; what++) {
            CHECKS.changesNothing("about " + what, made, Calls.of("about", 0, what));
            CHECKS.changesNothing("breaks " + what, made, Calls.of("breaks", 0, what % 2, what));
        }
        CHECKS.changesNothing("purse", made, KeyblockHouse::purse);
    }
}
