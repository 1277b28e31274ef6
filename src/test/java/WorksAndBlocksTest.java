import java.util.function.Supplier;

/** Promises 1 to 6: a new object, letters, works, blocks, lines and lines recut. */
public final class WorksAndBlocksTest {
    private static final int LEAST = Integer.MIN_VALUE;
    private static final int MOST = Integer.MAX_VALUE;
    private static final Checks CHECKS = new Checks();

    public static void main(String[] args) {
        newObject();
        letter();
        lettersRefused();
        work();
        block();
        blocksThatAreNone();
        blocksRefused();
        line();
        linesRefused();
        recut();
        recutsRefused();
        CHECKS.finish("WorksAndBlocksTest");
    }

    private static void newObject() {
        KeyblockHouse house = new KeyblockHouse();
        CHECKS.due("1: purse", house.purse(), 500);
        CHECKS.due("1: damp before", house.damp(1), 0);
        CHECKS.due("1: edict before", house.edict(1), 6);
        CHECKS.due("1: letters", house.letter('s'), 1);
        CHECKS.outside("1: no work yet", KeyblockHouse::new, h -> h.about(0, 0));
        CHECKS.due("1: first work", house.work(), 0);
        CHECKS.due("1: month 0", sealMonth(house, "umi"), 0);
        KeyblockHouse other = new KeyblockHouse();
        CHECKS.due("1: houses are apart", other.purse(), 500);
        CHECKS.due("1: passes from month 0", other.pass(1), 1);
    }

    private static int sealMonth(KeyblockHouse house, String restOfWord) {
        Made.cut(house, 0, restOfWord);
        return house.seal(0);
    }

    private static void letter() {
        KeyblockHouse house = new KeyblockHouse();
        for (int i = 1; i <= 8; i++) {
            CHECKS.due("2: letter " + i, house.letter(i % 2 == 0 ? 'a' : 'z'), i);
        }
        house.work();
        house.block(0);
        CHECKS.due("2: nothing typed behind a block", house.letter('m'), 1);
    }

    private static void lettersRefused() {
        char[] none = {'a' - 1, 'z' + 1, 'A', 'Z', '0', ' ', 0, (char) 233, (char) 0xffff};
        for (char letter : none) {
            CHECKS.badArgument("2: letter " + (int) letter, () -> Made.works(1), h -> h.letter(letter));
            CHECKS.badArgument("2: ninth letter " + (int) letter,
                Made.typed(() -> Made.works(1), "prussian"), h -> h.letter(letter));
        }
        CHECKS.badState("2: ninth letter", Made.typed(() -> Made.works(1), "prussian"), h -> h.letter('a'));
        KeyblockHouse house = Made.blocks("sumi");
        Made.type(house, "prussian");
        CHECKS.due("2: refused", Checks.answer(house, h -> h.letter('s')), "IllegalStateException");
        CHECKS.due("2: the word stays", house.block(0), 1);
    }

    private static void work() {
        KeyblockHouse house = new KeyblockHouse();
        for (int i = 0; i < 6; i++) {
            CHECKS.due("3: work", house.work(), i);
        }
        CHECKS.due("3: costs nothing", house.purse(), 500);
        CHECKS.badState("3: seventh work", () -> Made.works(6), KeyblockHouse::work);
    }

    private static void block() {
        KeyblockHouse house = Made.works(2);
        String[] words = {"sumi", "indigo", "beni", "gamboge", "prussian", "sumi"};
        for (int i = 0; i < 6; i++) {
            CHECKS.due("4: block", Made.cut(house, 1, words[i]), i);
            CHECKS.due("4: costs 20", house.purse(), 500 - 20 * (i + 1));
            CHECKS.due("4: blocks of the work", house.about(1, 0), i + 1);
        }
        CHECKS.due("4: blocks of the other work", house.about(0, 0), 0);
        KeyblockHouse poor = Made.poor(20);
        CHECKS.due("4: with 20", Made.cut(poor, 1, "beni"), 1);
        CHECKS.due("4: nothing left", poor.purse(), 0);
        KeyblockHouse told = Made.works(1);
        told.edict(1);
        Made.cut(told, 0, "sumi");
        CHECKS.due("4: an edict stops no block", Made.cut(told, 0, "indigo"), 1);
    }

    private static void blocksThatAreNone() {
        String[] none = {"", "sum", "sumis", "umi", "sumj", "imus", "indig", "prussia", "gambogea", "benii"};
        for (String word : none) {
            noBlock(Made.works(1), word, 0);
            noBlock(Made.blocks("sumi"), word, 1);
        }
        for (String word : new String[] {"indigo", "beni", "gamboge", "prussian"}) {
            noBlock(Made.works(1), word, 0);
        }
    }

    private static void noBlock(KeyblockHouse house, String word, int blocks) {
        int purse = house.purse();
        CHECKS.due("4: none of " + word, Made.cut(house, 0, word), KeyblockHouse.NONE);
        CHECKS.due("4: costs nothing " + word, house.purse(), purse);
        CHECKS.due("4: no more blocks " + word, house.about(0, 0), blocks);
        CHECKS.due("4: nothing typed behind " + word, house.letter('s'), 1);
        CHECKS.due("4: next block", Made.cut(house, 0, "umi"), blocks);
    }

    private static void blocksRefused() {
        String[] typed = {"beni", "nothing", ""};
        for (String word : typed) {
            for (int work : new int[] {-1, 1, 6, LEAST, MOST}) {
                CHECKS.outside("4: work " + work, Made.typed(() -> Made.blocks("sumi"), word), h -> h.block(work));
            }
            CHECKS.badState("4: six", Made.typed(() -> Made.blocks("sumi", "beni", "beni", "beni", "beni", "beni"),
                word), h -> h.block(0));
            CHECKS.badState("4: sealed", Made.typed(() -> Made.lines(3), word), h -> h.block(0));
            CHECKS.badState("4: money", Made.typed(() -> Made.poor(19), word), h -> h.block(1));
        }
        KeyblockHouse house = Made.lines(3);
        house.work();
        Made.type(house, "sumi");
        CHECKS.due("4: refused", Checks.answer(house, h -> h.block(0)), "IllegalStateException");
        CHECKS.due("4: refused", Checks.answer(house, h -> h.block(2)), "IndexOutOfBoundsException");
        CHECKS.due("4: the word stays typed", house.block(1), 0);
    }

    private static void line() {
        KeyblockHouse house = Made.blocks("sumi", "indigo");
        for (int i = 0; i < 8; i++) {
            CHECKS.due("5: line", house.line(0, 1, i == 0 ? 1 : 300), i);
            CHECKS.due("5: costs 2", house.purse(), 460 - 2 * (i + 1));
        }
        CHECKS.due("5: lines of the other block", house.line(0, 0, 7), 0);
        house.seal(0);
        CHECKS.due("5: behind the seal", house.line(0, 0, 7), 1);
        KeyblockHouse poor = Made.poor(2);
        CHECKS.due("5: with 2", poor.line(1, 0, 5), 0);
        CHECKS.due("5: nothing left", poor.purse(), 0);
    }

    private static void linesRefused() {
        Supplier<KeyblockHouse> full = () -> Made.lines(1, 2, 3, 4, 5, 6, 7, 8);
        Supplier<KeyblockHouse> printed = () -> Made.printed(1, "sumi", "beni");
        for (int none : new int[] {-1, 1, 6, LEAST, MOST}) {
            CHECKS.outside("5: work " + none, full, h -> h.line(none, 0, 1));
            CHECKS.outside("5: block " + none, full, h -> h.line(0, none, 1));
            CHECKS.outside("5: work ahead of strength", full, h -> h.line(none, 0, 0));
            CHECKS.outside("5: block ahead of strength", full, h -> h.line(0, none, 301));
        }
        CHECKS.outside("5: a work without blocks", () -> Made.works(1), h -> h.line(0, 0, 1));
        for (int strength : new int[] {0, -1, 301, LEAST, MOST}) {
            CHECKS.badArgument("5: strength " + strength, () -> Made.lines(3), h -> h.line(0, 0, strength));
            CHECKS.badArgument("5: strength ahead of eight", full, h -> h.line(0, 0, strength));
            CHECKS.badArgument("5: strength ahead of printed", printed, h -> h.line(0, 1, strength));
            CHECKS.badArgument("5: strength ahead of money", () -> Made.poor(1), h -> h.line(1, 0, strength));
        }
        CHECKS.badState("5: eight", full, h -> h.line(0, 0, 9));
        CHECKS.badState("5: printed", printed, h -> h.line(0, 1, 9));
        CHECKS.badState("5: money", () -> Made.poor(1), h -> h.line(1, 0, 9));
    }

    private static void recut() {
        KeyblockHouse house = Made.lines(2, 5, 3);
        house.run(0, 4);
        int purse = house.purse();
        CHECKS.due("6: had printed 4", house.recut(0, 0, 0), 4);
        CHECKS.due("6: costs 5", house.purse(), purse - 5);
        CHECKS.due("6: had printed 4 too", house.recut(0, 0, 2), 4);
        house.run(0, 3);
        CHECKS.due("6: whole, all but the line not recut", house.broken(0, 5, 0), 0b010);
        CHECKS.due("6: then broken", house.broken(0, 6, 0), 0b011);
        CHECKS.due("6: marks for good", house.marks(0, 6, 0), 0b101);
        CHECKS.due("6: again, just broken", house.recut(0, 0, 2), 3);
        CHECKS.due("6: broken on one sheet", house.recut(0, 0, 0), 3);
        CHECKS.due("6: never recut before", house.recut(0, 0, 1), 7);
        house.run(0, 1);
        CHECKS.due("6: all whole", house.broken(0, 7, 0), 0);
        CHECKS.due("6: all marks", house.marks(0, 7, 0), 0b111);
        KeyblockHouse poor = Made.poor(5);
        CHECKS.due("6: with 5", poor.recut(0, 0, 0), 400);
        CHECKS.due("6: nothing left", poor.purse(), 0);
    }

    private static void recutsRefused() {
        Supplier<KeyblockHouse> made = () -> {
            KeyblockHouse house = Made.lines(2, 3);
            house.run(0, 2);
            return house;
        };
        for (int none : new int[] {-1, 2, 8, LEAST, MOST}) {
            CHECKS.outside("6: work " + none, made, h -> h.recut(none, 0, 0));
            CHECKS.outside("6: block " + none, made, h -> h.recut(0, none, 0));
            CHECKS.outside("6: line " + none, made, h -> h.recut(0, 0, none));
        }
        CHECKS.outside("6: line ahead of money", () -> Made.poor(0), h -> h.recut(0, 0, 1));
        CHECKS.badState("6: prints once yet", made, h -> h.recut(0, 0, 1));
        CHECKS.badState("6: not printed", () -> Made.lines(1), h -> h.recut(0, 0, 0));
        CHECKS.badState("6: just recut", () -> {
            KeyblockHouse house = made.get();
            house.recut(0, 0, 0);
            return house;
        }, h -> h.recut(0, 0, 0));
        CHECKS.badState("6: money", () -> Made.poor(4), h -> h.recut(0, 0, 0));
    }
}
