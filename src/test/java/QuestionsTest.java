import java.util.function.Supplier;

/** Promises 14 to 23: the questions. */
public final class QuestionsTest {
    private static final int LEAST = Integer.MIN_VALUE;
    private static final int MOST = Integer.MAX_VALUE;
    private static final Checks CHECKS = new Checks();

    public static void main(String[] args) {
        broken();
        marks();
        states();
        statesOfBlocks();
        statesThatStay();
        breaks();
        breaksRefused();
        strong();
        off();
        owner();
        about();
        purse();
        sheetsRefused();
        CHECKS.finish("QuestionsTest");
    }

    private static void dueOfSheets(String what, int[] want, java.util.function.IntUnaryOperator ask) {
        for (int i = 0; i < want.length; i++) {
            CHECKS.due(what + " of the sheet " + i, ask.applyAsInt(i), want[i]);
        }
    }

    private static void broken() {
        KeyblockHouse house = Made.blocks("sumi", "beni");
        int[] strengths = {1, 3, 2, 300, 2, 300, 300, 1};
        for (int strength : strengths) {
            house.line(0, 1, strength);
        }
        house.seal(0);
        house.run(0, 3);
        house.run(0, 1);
        dueOfSheets("14: lines", new int[] {0, 0b10000001, 0b10010101, 0b10010111}, s -> house.broken(0, s, 1));
        dueOfSheets("14: no lines", new int[] {0, 0, 0, 0}, s -> house.broken(0, s, 0));
        KeyblockHouse strong = Made.lines(300);
        for (int i = 0; i < 4; i++) {
            strong.run(0, 100);
        }
        CHECKS.due("14: the 300th sheet", strong.broken(0, 299, 0), 0);
        CHECKS.due("14: the 301st sheet", strong.broken(0, 300, 0), 1);
        CHECKS.due("14: the 400th sheet", strong.broken(0, 399, 0), 1);
    }

    private static KeyblockHouse twiceRecut() {
        KeyblockHouse house = Made.lines(1, 2);
        house.run(0, 2);
        house.recut(0, 0, 0);
        house.run(0, 1);
        house.recut(0, 0, 1);
        house.run(0, 2);
        return house;
    }

    private static void marks() {
        KeyblockHouse house = twiceRecut();
        dueOfSheets("15: marks", new int[] {0, 0, 1, 3, 3}, s -> house.marks(0, s, 0));
        dueOfSheets("15: broken", new int[] {0, 1, 2, 1, 1}, s -> house.broken(0, s, 0));
        house.recut(0, 0, 0);
        dueOfSheets("15: a sheet keeps its marks", new int[] {0, 0, 1, 3, 3}, s -> house.marks(0, s, 0));
        house.run(0, 1);
        CHECKS.due("15: a mark is for good", house.marks(0, 5, 0), 3);
    }

    private static void dueStates(String what, KeyblockHouse house, int... want) {
        dueOfSheets("16: " + what, want, s -> house.state(0, s));
        dueOfSheets("17: " + what, want, s -> house.stateAnew(0, s));
        for (int i = want.length - 1; i >= 0; i--) {
            CHECKS.due("17: from behind, " + what, house.stateAnew(0, i), want[i]);
        }
    }

    private static void states() {
        KeyblockHouse house = twiceRecut();
        dueStates("recut", house, 0, 1, 2, 3, 3);
        CHECKS.due("22: next", house.about(0, 4), 4);
        house.recut(0, 0, 0);
        CHECKS.due("22: both are broken once more", house.about(0, 4), 4);
        house.run(0, 1);
        dueStates("recut once more", house, 0, 1, 2, 3, 3, 4);
        KeyblockHouse alike = Made.lines(1, 1, 2);
        alike.run(0, 4);
        dueStates("lines that break at once", alike, 0, 1, 2, 2);
        KeyblockHouse plain = Made.printed(3, "sumi");
        dueStates("no lines", plain, 0, 0, 0);
    }

    private static void statesOfBlocks() {
        KeyblockHouse house = Made.blocks("sumi", "beni", "indigo");
        house.line(0, 0, 3);
        house.line(0, 1, 2);
        house.line(0, 2, 5);
        house.work();
        Made.cut(house, 1, "sumi");
        house.line(1, 0, 1);
        house.seal(0);
        house.seal(1);
        house.run(0, 3);
        house.run(1, 2);
        house.run(0, 3);
        dueStates("blocks", house, 0, 0, 1, 2, 2, 3);
        CHECKS.due("16: the other work", house.state(1, 1), 1);
        CHECKS.due("17: the other work", house.stateAnew(1, 1), 1);
    }

    private static void statesThatStay() {
        KeyblockHouse house = Made.lines(1);
        house.run(0, 2);
        house.recut(0, 0, 0);
        house.run(0, 1);
        CHECKS.due("16: the mark is a scar", house.state(0, 2), 2);
        house.recut(0, 0, 0);
        CHECKS.due("22: whole with a mark as the sheet ahead", house.about(0, 4), 2);
        house.run(0, 1);
        dueStates("recut ahead of each sheet", house, 0, 1, 2, 2);
        KeyblockHouse mark = Made.lines(2);
        mark.run(0, 2);
        CHECKS.due("22: would be broken", mark.about(0, 4), 1);
        mark.recut(0, 0, 0);
        mark.run(0, 2);
        mark.recut(0, 0, 0);
        mark.run(0, 2);
        dueStates("other by a mark alone, then alike", mark, 0, 0, 1, 1, 1, 1);
    }

    private static void dueOrder(String what, KeyblockHouse house, int block, int... want) {
        for (int place = 0; place <= 8; place++) {
            int due = place < want.length ? want[place] : KeyblockHouse.NONE;
            CHECKS.due("18: " + what + " at " + place, house.breaks(0, block, place), due);
        }
        CHECKS.due("18: " + what + " far beyond", house.breaks(0, block, MOST), KeyblockHouse.NONE);
    }

    private static void breaks() {
        KeyblockHouse house = Made.lines(5, 2, 9, 2, 5, 1, 300, 5);
        dueOrder("at first", house, 0, 5, 1, 3, 0, 4, 7, 2, 6);
        house.run(0, 2);
        dueOrder("behind a run", house, 0, 0, 4, 7, 2, 6);
        house.recut(0, 0, 3);
        dueOrder("a line recut", house, 0, 3, 0, 4, 7, 2, 6);
        house.recut(0, 0, 5);
        house.recut(0, 0, 1);
        dueOrder("lines recut", house, 0, 5, 1, 3, 0, 4, 7, 2, 6);
        house.run(0, 1);
        dueOrder("of alike ones by numbers", house, 0, 1, 3, 0, 4, 7, 2, 6);
        house.run(0, 7);
        dueOrder("all but one", house, 0, 6);
        dueOrder("no lines", Made.blocks("sumi"), 0);
        KeyblockHouse two = Made.blocks("sumi", "beni");
        two.line(0, 1, 4);
        dueOrder("another block", two, 1, 0);
        dueOrder("the first block", two, 0);
    }

    private static void breaksRefused() {
        Supplier<KeyblockHouse> made = () -> Made.lines(2, 3);
        for (int none : new int[] {-1, LEAST}) {
            CHECKS.outside("18: place " + none, made, h -> h.breaks(0, 0, none));
        }
        for (int none : new int[] {-1, 1, 6, LEAST, MOST}) {
            CHECKS.outside("18: work " + none, made, h -> h.breaks(none, 0, 0));
            CHECKS.outside("18: block " + none, made, h -> h.breaks(0, none, 0));
        }
    }

    private static void dueStrong(String what, KeyblockHouse house, int sheet, int... want) {
        for (int block = 0; block < want.length; block++) {
            CHECKS.due("19: " + what + " block " + block, house.strong(0, sheet, block), want[block]);
        }
    }

    private static void strong() {
        KeyblockHouse house = Made.blocks("sumi", "indigo", "beni", "gamboge", "prussian");
        house.seal(0);
        house.pass(5);
        house.run(0, 1);
        dueStrong("new", house, 0, 100, 100, 100, 100, 100);
        house.pass(1);
        dueStrong("a month", house, 0, 100, 100, 100, 100, 100);
        house.pass(1);
        dueStrong("two months", house, 0, 100, 100, 99, 100, 100);
        house.pass(10);
        dueStrong("a year", house, 0, 100, 97, 91, 96, 99);
        house.run(0, 1);
        house.pass(11);
        dueStrong("23 months", house, 0, 100, 95, 83, 93, 99);
        dueStrong("11 months", house, 1, 100, 98, 92, 97, 100);
        house.pass(60);
        house.pass(50);
        dueStrong("133 months", house, 0, 100, 67, 1, 56, 89);
        house.pass(1);
        dueStrong("134 months", house, 0, 100, 67, 0, 56, 89);
        house.pass(1);
        dueStrong("135 months", house, 0, 100, 67, 0, 55, 89);
        for (int i = 0; i < 30; i++) {
            house.pass(60);
        }
        dueStrong("1935 months", house, 0, 100, 0, 0, 0, 0);
    }

    private static void dueOff(KeyblockHouse house, int sheet, int... want) {
        for (int block = 0; block < want.length; block++) {
            CHECKS.due("20: sheet " + sheet + " block " + block, house.off(0, sheet, block), want[block]);
        }
    }

    private static void off() {
        KeyblockHouse house = Made.blocks("sumi", "indigo", "beni", "gamboge", "prussian", "beni");
        house.damp(9);
        house.seal(0);
        house.damp(0);
        house.run(0, 1);
        house.damp(4);
        house.run(0, 2);
        house.damp(8);
        house.damp(9);
        house.pass(9);
        house.run(0, 1);
        house.damp(1);
        dueOff(house, 0, 0, 0, 0, 0, 0, 0);
        dueOff(house, 1, 0, 1, 2, 4, 5, 6);
        dueOff(house, 2, 0, 1, 2, 4, 5, 6);
        dueOff(house, 3, 0, 3, 6, 9, 12, 15);
    }

    private static void owner() {
        KeyblockHouse house = Made.printed(2, "sumi");
        house.bid(0, 0, 3);
        house.bid(9, 0, 2);
        CHECKS.due("21: a bid is no sale", house.owner(0, 0), KeyblockHouse.NONE);
        house.sell(0, 1);
        CHECKS.due("21: the person 0", house.owner(0, 0), 0);
        CHECKS.due("21: not sold", house.owner(0, 1), KeyblockHouse.NONE);
        house.sell(0, 1);
        CHECKS.due("21: the person 9", house.owner(0, 1), 9);
        house.work();
        Made.cut(house, 1, "sumi");
        house.seal(1);
        house.run(1, 1);
        CHECKS.due("21: of another work", house.owner(1, 0), KeyblockHouse.NONE);
    }

    private static void dueAbout(String what, KeyblockHouse house, int work, int... want) {
        for (int i = 0; i < want.length; i++) {
            CHECKS.due("22: " + what + ", what " + i, house.about(work, i), want[i]);
        }
    }

    private static void about() {
        KeyblockHouse house = Made.works(2);
        dueAbout("begun", house, 1, 0, 0, KeyblockHouse.NONE, 0, 0);
        Made.cut(house, 1, "sumi");
        Made.cut(house, 1, "beni");
        house.line(1, 1, 1);
        house.pass(4);
        house.bid(3, 1, 6);
        house.seal(1);
        dueAbout("sealed", house, 1, 2, 0, 4, 1, 0);
        house.run(1, 1);
        dueAbout("printed", house, 1, 2, 1, 4, 1, 1);
        house.run(1, 2);
        dueAbout("broken", house, 1, 2, 3, 4, 1, 1);
        house.recut(1, 1, 0);
        dueAbout("recut", house, 1, 2, 3, 4, 1, 2);
        house.sell(1, 1);
        dueAbout("sold", house, 1, 2, 3, 4, 0, 2);
        dueAbout("the other work", house, 0, 0, 0, KeyblockHouse.NONE, 0, 0);
        for (int none : new int[] {-1, 1, 6, LEAST, MOST}) {
            CHECKS.outside("22: work " + none, () -> Made.lines(1), h -> h.about(none, 0));
            CHECKS.outside("22: work ahead of what", () -> Made.lines(1), h -> h.about(none, 5));
        }
        for (int what : new int[] {-1, 5, LEAST, MOST}) {
            CHECKS.badArgument("22: what " + what, () -> Made.lines(1), h -> h.about(0, what));
        }
    }

    private static void purse() {
        KeyblockHouse house = Made.blocks("sumi", "beni");
        CHECKS.due("23: two blocks", house.purse(), 460);
        house.line(0, 0, 1);
        CHECKS.due("23: a line", house.purse(), 458);
        house.seal(0);
        house.run(0, 3);
        CHECKS.due("23: a run", house.purse(), 452);
        house.recut(0, 0, 0);
        CHECKS.due("23: a line recut", house.purse(), 447);
        house.bid(0, 0, 70);
        house.damp(3);
        house.edict(2);
        house.pass(3);
        CHECKS.due("23: what costs nothing", house.purse(), 447);
        house.sell(0, 1);
        CHECKS.due("23: a sheet sold", house.purse(), 517);
        CHECKS.due("23: asked once more", house.purse(), 517);
    }

    private static void sheetsRefused() {
        Supplier<KeyblockHouse> made = () -> Made.printed(2, "sumi", "beni");
        for (int none : new int[] {-1, 2, 399, 400, LEAST, MOST}) {
            CHECKS.outside("14: work " + none, made, h -> h.broken(none, 0, 0));
            CHECKS.outside("14: sheet " + none, made, h -> h.broken(0, none, 0));
            CHECKS.outside("14: block " + none, made, h -> h.broken(0, 0, none));
            CHECKS.outside("15: work " + none, made, h -> h.marks(none, 0, 0));
            CHECKS.outside("15: sheet " + none, made, h -> h.marks(0, none, 0));
            CHECKS.outside("15: block " + none, made, h -> h.marks(0, 0, none));
            CHECKS.outside("16: work " + none, made, h -> h.state(none, 0));
            CHECKS.outside("16: sheet " + none, made, h -> h.state(0, none));
            CHECKS.outside("17: work " + none, made, h -> h.stateAnew(none, 0));
            CHECKS.outside("17: sheet " + none, made, h -> h.stateAnew(0, none));
            CHECKS.outside("19: work " + none, made, h -> h.strong(none, 0, 0));
            CHECKS.outside("19: sheet " + none, made, h -> h.strong(0, none, 0));
            CHECKS.outside("19: block " + none, made, h -> h.strong(0, 0, none));
            CHECKS.outside("20: work " + none, made, h -> h.off(none, 0, 0));
            CHECKS.outside("20: sheet " + none, made, h -> h.off(0, none, 0));
            CHECKS.outside("20: block " + none, made, h -> h.off(0, 0, none));
            CHECKS.outside("21: work " + none, made, h -> h.owner(none, 0));
            CHECKS.outside("21: sheet " + none, made, h -> h.owner(0, none));
        }
        CHECKS.outside("16: no sheet yet", () -> Made.lines(1), h -> h.state(0, 0));
        CHECKS.outside("17: no sheet yet", () -> Made.lines(1), h -> h.stateAnew(0, 0));
        CHECKS.outside("21: no sheet yet", () -> Made.lines(1), h -> h.owner(0, 0));
        KeyblockHouse full = Made.poor(0);
        CHECKS.due("16: the sheet 400", Checks.answer(full, h -> h.state(0, 400)), "IndexOutOfBoundsException");
    }
}
