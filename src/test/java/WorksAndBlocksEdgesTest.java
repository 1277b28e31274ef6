import java.util.function.Supplier;
import java.util.function.ToIntFunction;

/** Each sentence on a new object, letters, works, blocks, lines and lines recut that names an edge. */
public final class WorksAndBlocksEdgesTest {
    private static final Checks CHECKS = new Checks();
    private static final String[] WORDS = {"sumi", "indigo", "beni", "gamboge", "prussian"};

    public static void main(String[] args) {
        newObject();
        noWorkYet();
        letterRange();
        lettersAreCounted();
        eightLetters();
        letterOrder();
        sixWorks();
        sixBlocks();
        blockWords();
        blockZero();
        nothingTypedThen();
        noLetterTyped();
        aheadOfTheWord();
        blockNoSuchWork();
        blockSealed();
        blockMoney();
        blockOrder();
        eightLines();
        strength();
        aheadOfTheFirstRun();
        lineNoSuch();
        lineMoney();
        lineOrder();
        wouldBeBroken();
        printedZeroTimesAgain();
        markForGood();
        howOftenItHadPrinted();
        recutNoSuch();
        recutMoney();
        recutOrder();
        CHECKS.finish("WorksAndBlocksEdgesTest");
    }

    // ---- a new object

    private static void newObject() {
        CHECKS.sentence("1 Begins in the month 0, without works");
        CHECKS.due("passes from 0", new KeyblockHouse().pass(1), 1);
        KeyblockHouse house = new KeyblockHouse();
        CHECKS.due("first work", house.work(), 0);
        CHECKS.due("first block", Made.cut(house, 0, "sumi"), 0);
        CHECKS.due("sealed in the month", house.seal(0), 0);
        KeyblockHouse used = Made.printed(3, "sumi", "beni");
        used.pass(5);
        used.letter('s');
        CHECKS.due("no work of another object", Checks.answer(new KeyblockHouse(), h -> h.about(0, 0)),
            "IndexOutOfBoundsException");
        CHECKS.due("no letter of another object", new KeyblockHouse().letter('u'), 1);
        CHECKS.sentence("Terms: the house has 500 at first");
        CHECKS.due("purse", new KeyblockHouse().purse(), 500);
        CHECKS.sentence("Terms: an edict tells how many blocks, 6 at first");
        CHECKS.due("edict before", new KeyblockHouse().edict(3), 6);
        CHECKS.due("six are sealed", Made.blocks("sumi", "beni", "beni", "beni", "beni", "beni").seal(0), 0);
        CHECKS.sentence("Terms: the damp, 0 to 9, 0 at first");
        CHECKS.due("damp before", new KeyblockHouse().damp(3), 0);
        CHECKS.due("stands off", Made.printed(1, "sumi", "beni", "beni", "beni").off(0, 0, 3), 0);
    }

    private static void noWorkYet() {
        CHECKS.sentence("1 without works");
        for (int work : Edge.besideNumbers(0)) {
            eachCallOfAWork("work " + work, KeyblockHouse::new, work);
        }
    }

    private static void eachCallOfAWork(String label, Supplier<KeyblockHouse> made, int work) {
        CHECKS.outside("block, " + label, made, h -> h.block(work));
        CHECKS.outside("line, " + label, made, h -> h.line(work, 0, 1));
        CHECKS.outside("recut, " + label, made, h -> h.recut(work, 0, 0));
        CHECKS.outside("seal, " + label, made, h -> h.seal(work));
        CHECKS.outside("run, " + label, made, h -> h.run(work, 1));
        CHECKS.outside("bid, " + label, made, h -> h.bid(0, work, 1));
        CHECKS.outside("sell, " + label, made, h -> h.sell(work, 1));
        CHECKS.outside("broken, " + label, made, h -> h.broken(work, 0, 0));
        CHECKS.outside("marks, " + label, made, h -> h.marks(work, 0, 0));
        CHECKS.outside("state, " + label, made, h -> h.state(work, 0));
        CHECKS.outside("stateAnew, " + label, made, h -> h.stateAnew(work, 0));
        CHECKS.outside("breaks, " + label, made, h -> h.breaks(work, 0, 0));
        CHECKS.outside("strong, " + label, made, h -> h.strong(work, 0, 0));
        CHECKS.outside("off, " + label, made, h -> h.off(work, 0, 0));
        CHECKS.outside("owner, " + label, made, h -> h.owner(work, 0));
        for (int what : new int[] {0, 1, 2, 3, 4}) {
            CHECKS.outside("about " + what + ", " + label, made, h -> h.about(work, what));
        }
    }

    // ---- letters

    private static void letterRange() {
        CHECKS.sentence("2 letter: a to z; IllegalArgumentException if letter is none of these");
        for (char letter = 'a'; letter <= 'z'; letter++) {
            CHECKS.due("letter " + letter, new KeyblockHouse().letter(letter), 1);
        }
        int[] none = {Character.MIN_VALUE, Character.MAX_VALUE, 'a' - 1, 'z' + 1, 'A', 'Z', 'M', '0', '9', ' ', '-',
            '\n', 127, 128, 225, 233, 255, 'a' + 128, 'z' + 128, 'a' + 256, 'z' + 256, 'a' + 0x8000, 'z' + 0x8000,
            0x0131, 0x017f, 0x212a, 0xff41, 0xff5a, 0x7fff, 0x8000};
        for (int sign : none) {
            CHECKS.badArgument("sign " + sign, KeyblockHouse::new, h -> h.letter((char) sign));
        }
        for (int sign = 0; sign <= Character.MAX_VALUE; sign++) {
            String due = sign >= 97 && sign <= 122 ? "1" : "IllegalArgumentException";
            char letter = (char) sign;
            CHECKS.due("any sign " + sign, Checks.answer(new KeyblockHouse(), h -> h.letter(letter)), due);
        }
    }

    private static void lettersAreCounted() {
        CHECKS.sentence("2 Returns how many it has then");
        KeyblockHouse house = new KeyblockHouse();
        String word = "prussian";
        for (int i = 0; i < 8; i++) {
            char letter = word.charAt(i);
            CHECKS.due("letter", house.letter(letter), i + 1);
            CHECKS.due("refused", Checks.answer(house, h -> h.letter('A')), "IllegalArgumentException");
        }
        house.work();
        house.work();
        CHECKS.due("typed ahead of the work", house.block(1), KeyblockHouse.NONE);
        CHECKS.due("the word was for the block that it was not", house.letter('s'), 1);
        Made.type(house, "umi");
        CHECKS.due("one word for all works", house.block(0), 0);
        CHECKS.due("none is left for the other", house.block(1), KeyblockHouse.NONE);
    }

    private static void eightLetters() {
        CHECKS.sentence("2 IllegalStateException if it has 8");
        KeyblockHouse seven = Made.blocks("sumi");
        Made.type(seven, "prussia");
        CHECKS.due("the eighth", seven.letter('n'), 8);
        for (char letter : new char[] {'a', 'n', 'z'}) {
            CHECKS.badState("ninth " + letter, Made.typed(() -> Made.blocks("sumi"), "prussian"),
                h -> h.letter(letter));
            CHECKS.badState("ninth, no work " + letter, Made.typed(KeyblockHouse::new, "aaaaaaaa"),
                h -> h.letter(letter));
            CHECKS.due("refused", Checks.answer(seven, h -> h.letter(letter)), "IllegalStateException");
        }
        CHECKS.due("the word is the same", seven.block(0), 1);
        CHECKS.due("and gone", seven.letter('a'), 1);
    }

    private static void letterOrder() {
        CHECKS.sentence("2 IllegalArgumentException ahead of IllegalStateException");
        Supplier<KeyblockHouse> full = Made.typed(() -> Made.blocks("sumi"), "prussian");
        for (int sign : new int[] {0, 'a' - 1, 'z' + 1, 'A', 0xffff}) {
            CHECKS.badArgument("sign " + sign, full, h -> h.letter((char) sign));
        }
    }

    // ---- works

    private static void sixWorks() {
        CHECKS.sentence("Terms, 3: works are numbered from 0, at most 6");
        KeyblockHouse house = new KeyblockHouse();
        for (int i = 0; i < 6; i++) {
            int next = i;
            CHECKS.due("not there yet", Checks.answer(house, h -> h.about(next, 0)), "IndexOutOfBoundsException");
            CHECKS.due("number", house.work(), i);
            CHECKS.due("there", house.about(i, 0), 0);
        }
        for (int i = 0; i < 3; i++) {
            CHECKS.due("again", Checks.answer(house, KeyblockHouse::work), "IllegalStateException");
        }
        CHECKS.sentence("3 IllegalStateException if there are 6");
        CHECKS.badState("six without blocks", () -> Made.works(6), KeyblockHouse::work);
        CHECKS.badState("six, one printed", () -> {
            KeyblockHouse printed = Made.printed(2, "sumi", "beni");
            for (int i = 0; i < 5; i++) {
                printed.work();
            }
            return printed;
        }, KeyblockHouse::work);
        CHECKS.due("without money", Made.poor(0).work(), 3);
        CHECKS.sentence("Exceptions: there is no such work, of six");
        Supplier<KeyblockHouse> six = () -> Made.works(6);
        for (int work : Edge.besideNumbers(6)) {
            eachCallOfAWork("work " + work, six, work);
        }
        CHECKS.sentence("Exceptions: there is no such work, of one");
        Supplier<KeyblockHouse> one = () -> Made.printed(2, "sumi", "beni");
        for (int work : Edge.besideNumbers(1)) {
            eachCallOfAWork("work " + work, one, work);
        }
    }

    // ---- blocks

    private static void sixBlocks() {
        CHECKS.sentence("Terms, 4: a work has up to 6 blocks, from 0; IllegalStateException if the work has 6");
        KeyblockHouse house = Made.works(2);
        for (int i = 0; i < 6; i++) {
            CHECKS.due("number", Made.cut(house, 1, Made.SIX[i]), i);
        }
        CHECKS.due("of another work", Made.cut(house, 0, "sumi"), 0);
        for (String word : new String[] {"beni", "sumi", "none", ""}) {
            CHECKS.badState("seventh " + word, Made.typed(() -> Made.blocks(Made.SIX), word), h -> h.block(0));
        }
        CHECKS.sentence("Terms: an edict tells how many blocks a work may have; 4 names no edict");
        KeyblockHouse told = Made.works(1);
        told.edict(1);
        for (int i = 0; i < 6; i++) {
            CHECKS.due("under the edict 1", Made.cut(told, 0, Made.SIX[i]), i);
        }
    }

    private static void blockWords() {
        CHECKS.sentence("4 NONE if the word is no pigment");
        for (String word : WORDS) {
            CHECKS.due(word, Made.cut(Made.blocks("sumi"), 0, word), 1);
            noBlock(word.substring(1));
            noBlock(word.substring(0, word.length() - 1));
            noBlock(word.substring(0, word.length() - 1) + (char) (word.charAt(word.length() - 1) + 1));
            noBlock((char) (word.charAt(0) + 1) + word.substring(1));
            noBlock(new StringBuilder(word).reverse().toString());
            if (word.length() < 8) {
                noBlock(word + word.charAt(word.length() - 1));
                noBlock("a" + word);
                noBlock(word + "a");
            }
        }
        noBlock("sumisumi");
        noBlock("benibeni");
        noBlock("sumibeni");
        noBlock("a");
        noBlock("zzzzzzzz");
    }

    private static void noBlock(String word) {
        KeyblockHouse house = Made.blocks("sumi");
        CHECKS.due("word " + word, Made.cut(house, 0, word), KeyblockHouse.NONE);
        CHECKS.due("no block of " + word, house.about(0, 0), 1);
        CHECKS.due("nothing paid for " + word, house.purse(), 480);
        CHECKS.due("first block of " + word, Made.cut(Made.works(1), 0, word), KeyblockHouse.NONE);
    }

    private static void blockZero() {
        CHECKS.sentence("Terms, 4: the block 0 is sumi; NONE if the word is not sumi for the block 0");
        for (int i = 1; i < WORDS.length; i++) {
            KeyblockHouse house = Made.works(2);
            CHECKS.due(WORDS[i], Made.cut(house, 1, WORDS[i]), KeyblockHouse.NONE);
            CHECKS.due("no block", house.about(1, 0), 0);
            CHECKS.due("costs nothing", house.purse(), 500);
            CHECKS.due("nothing typed", house.letter('s'), 1);
            CHECKS.due("then sumi", Made.cut(house, 1, "umi"), 0);
            CHECKS.due("then any", Made.cut(house, 1, WORDS[i]), 1);
            CHECKS.due("the other work's block 0", Made.cut(house, 0, WORDS[i]), KeyblockHouse.NONE);
        }
        CHECKS.due("sumi twice", Made.cut(Made.blocks("sumi"), 0, "sumi"), 1);
    }

    private static void nothingTypedThen() {
        CHECKS.sentence("4 nothing is typed then, also if the word is none, which costs nothing");
        KeyblockHouse house = Made.works(1);
        Made.cut(house, 0, "sumi");
        CHECKS.due("behind a block", house.letter('z'), 1);
        Made.type(house, "zzzzzzz");
        CHECKS.due("none of eight letters", house.block(0), KeyblockHouse.NONE);
        CHECKS.due("behind none", house.letter('b'), 1);
        Made.type(house, "eni");
        CHECKS.due("the next word alone", house.block(0), 1);
        CHECKS.due("blocks alone cost", house.purse(), 460);
        KeyblockHouse first = Made.works(1);
        Made.cut(first, 0, "prussian");
        CHECKS.due("behind no sumi", first.letter('s'), 1);
        CHECKS.due("costs nothing", first.purse(), 500);
    }

    private static void noLetterTyped() {
        CHECKS.sentence("4 NONE if the word is no pigment: no letter is typed");
        KeyblockHouse house = Made.works(1);
        CHECKS.due("for the block 0", house.block(0), KeyblockHouse.NONE);
        CHECKS.due("again", house.block(0), KeyblockHouse.NONE);
        Made.cut(house, 0, "sumi");
        CHECKS.due("for the block 1", house.block(0), KeyblockHouse.NONE);
        CHECKS.due("costs nothing", house.purse(), 480);
        CHECKS.due("blocks", house.about(0, 0), 1);
        CHECKS.due("letters", house.letter('a'), 1);
    }

    private static void aheadOfTheWord() {
        CHECKS.sentence("4 exceptions are looked at ahead of the word");
        for (String word : new String[] {"", "s", "sumi", "beni", "prussian", "nonenone"}) {
            CHECKS.outside("no work, " + word, Made.typed(() -> Made.works(1), word), h -> h.block(1));
            CHECKS.badState("sealed, " + word, Made.typed(() -> Made.lines(3), word), h -> h.block(0));
            CHECKS.badState("money, " + word, Made.typed(() -> Made.poor(19), word), h -> h.block(1));
            CHECKS.badState("six, " + word, Made.typed(() -> Made.blocks(Made.SIX), word), h -> h.block(0));
        }
        CHECKS.badState("money, not sumi for the block 0", Made.typed(() -> {
            KeyblockHouse house = Made.poor(19);
            house.work();
            return house;
        }, "beni"), h -> h.block(3));
        KeyblockHouse house = Made.lines(3);
        Made.type(house, "sumi");
        CHECKS.due("sealed", Checks.answer(house, h -> h.block(0)), "IllegalStateException");
        house.work();
        CHECKS.due("no work", Checks.answer(house, h -> h.block(2)), "IndexOutOfBoundsException");
        CHECKS.due("the word is still typed", house.block(1), 0);
    }

    private static void blockNoSuchWork() {
        CHECKS.sentence("4 IndexOutOfBoundsException as told");
        Supplier<KeyblockHouse> typed = Made.typed(() -> Made.works(3), "sumi");
        for (int work : Edge.besideNumbers(3)) {
            CHECKS.outside("work " + work, typed, h -> h.block(work));
        }
        CHECKS.due("the last work", typed.get().block(2), 0);
    }

    private static void blockSealed() {
        CHECKS.sentence("Terms, 4: behind the seal it gets no more blocks");
        KeyblockHouse house = Made.blocks("sumi");
        CHECKS.due("ahead of it", Made.cut(house, 0, "beni"), 1);
        house.seal(0);
        Made.type(house, "beni");
        CHECKS.due("behind it", Checks.answer(house, h -> h.block(0)), "IllegalStateException");
        house.run(0, 1);
        house.pass(60);
        CHECKS.due("behind a run", Checks.answer(house, h -> h.block(0)), "IllegalStateException");
        CHECKS.due("blocks", house.about(0, 0), 2);
        CHECKS.badState("sealed in the month 0", Made.typed(() -> Made.lines(3), "beni"), h -> h.block(0));
        CHECKS.badState("sealed in the month 2000", Made.typed(() -> {
            KeyblockHouse old = Made.old(() -> Made.blocks("sumi")).get();
            old.seal(0);
            return old;
        }, "beni"), h -> h.block(0));
    }

    private static void blockMoney() {
        CHECKS.sentence("Terms, 4: to cut a block costs 20; never less than 0; if the house has not so much");
        KeyblockHouse just = Made.poor(20);
        CHECKS.due("none for 20", Made.cut(just, 1, "none"), KeyblockHouse.NONE);
        CHECKS.due("nothing paid", just.purse(), 20);
        CHECKS.due("with 20", Made.cut(just, 1, "beni"), 1);
        CHECKS.due("nothing left", just.purse(), 0);
        KeyblockHouse more = Made.poor(21);
        CHECKS.due("with 21", Made.cut(more, 1, "beni"), 1);
        CHECKS.due("one left", more.purse(), 1);
        for (int money : new int[] {19, 1, 0}) {
            CHECKS.badState("with " + money, Made.typed(() -> Made.poor(money), "beni"), h -> h.block(1));
        }
        KeyblockHouse paid = Made.works(5);
        for (int work = 0; work < 4; work++) {
            for (int i = 0; i < 6; i++) {
                Made.cut(paid, work, Made.SIX[i]);
            }
        }
        CHECKS.due("24 blocks", paid.purse(), 20);
        CHECKS.due("the 25th", Made.cut(paid, 4, "sumi"), 0);
        Made.type(paid, "sumi");
        CHECKS.due("the 26th", Checks.answer(paid, h -> h.block(4)), "IllegalStateException");
        CHECKS.due("purse", paid.purse(), 0);
    }

    private static void blockOrder() {
        CHECKS.sentence("4 IndexOutOfBoundsException ahead of IllegalStateException");
        for (int work : Edge.besideNumbers(3)) {
            CHECKS.outside("no work, no money, " + work, Made.typed(() -> Made.poor(0), "sumi"), h -> h.block(work));
        }
        CHECKS.outside("no work, no word", () -> Made.works(1), h -> h.block(1));
    }

    // ---- lines

    private static KeyblockHouse eight() {
        return Made.lines(1, 2, 3, 4, 5, 6, 7, 8);
    }

    private static void eightLines() {
        CHECKS.sentence("Terms, 5: a block has up to 8 lines, from 0; IllegalStateException if the block has 8");
        KeyblockHouse house = Made.blocks("sumi", "beni");
        for (int i = 0; i < 8; i++) {
            CHECKS.due("number", house.line(0, 1, 300 - i), i);
        }
        CHECKS.due("ninth", Checks.answer(house, h -> h.line(0, 1, 1)), "IllegalStateException");
        CHECKS.due("of another block", house.line(0, 0, 1), 0);
        CHECKS.badState("ninth of a sealed work", WorksAndBlocksEdgesTest::eight, h -> h.line(0, 0, 1));
        CHECKS.badState("ninth of a work not sealed", () -> {
            KeyblockHouse open = Made.blocks("sumi");
            for (int i = 0; i < 8; i++) {
                open.line(0, 0, 300);
            }
            return open;
        }, h -> h.line(0, 0, 300));
    }

    private static void strength() {
        CHECKS.sentence("Terms, 5: strength: 1 to 300; IllegalArgumentException if strength is out of range");
        for (int strength = 1; strength <= 300; strength++) {
            CHECKS.due("strength " + strength, Made.blocks("sumi").line(0, 0, strength), 0);
        }
        for (int strength : Edge.beside(1, 300)) {
            CHECKS.badArgument("strength " + strength, () -> Made.blocks("sumi"), h -> h.line(0, 0, strength));
        }
        KeyblockHouse least = Made.lines(1);
        least.run(0, 2);
        CHECKS.due("1 is whole once", least.broken(0, 0, 0), 0);
        CHECKS.due("1 is broken then", least.broken(0, 1, 0), 1);
    }

    private static void aheadOfTheFirstRun() {
        CHECKS.sentence("Terms, 5: lines are cut ahead of the first run of the work alone");
        KeyblockHouse house = Made.blocks("sumi", "beni");
        house.work();
        Made.cut(house, 1, "sumi");
        CHECKS.due("not sealed", house.line(0, 0, 3), 0);
        house.seal(0);
        house.seal(1);
        CHECKS.due("sealed", house.line(0, 0, 3), 1);
        CHECKS.due("a run refused", Checks.answer(house, h -> h.run(0, 0)), "IllegalArgumentException");
        CHECKS.due("behind a run refused", house.line(0, 0, 3), 2);
        house.run(0, 1);
        CHECKS.due("a sheet printed", Checks.answer(house, h -> h.line(0, 0, 3)), "IllegalStateException");
        CHECKS.due("a block without lines", Checks.answer(house, h -> h.line(0, 1, 3)), "IllegalStateException");
        CHECKS.due("another work", house.line(1, 0, 3), 0);
        CHECKS.badState("printed", () -> Made.printed(1, "sumi", "beni"), h -> h.line(0, 1, 300));
        CHECKS.badState("printed 400 times", () -> Made.poor(38), h -> h.line(0, 0, 1));
    }

    private static void lineNoSuch() {
        CHECKS.sentence("5 IndexOutOfBoundsException as told, of the work or the block");
        Supplier<KeyblockHouse> two = () -> Made.blocks("sumi", "beni");
        for (int block : Edge.besideNumbers(2)) {
            CHECKS.outside("block " + block, two, h -> h.line(0, block, 1));
        }
        Supplier<KeyblockHouse> six = () -> Made.blocks(Made.SIX);
        for (int block : Edge.besideNumbers(6)) {
            CHECKS.outside("block of six " + block, six, h -> h.line(0, block, 1));
        }
        CHECKS.due("the last of six", six.get().line(0, 5, 1), 0);
        for (int block : Edge.besideNumbers(0)) {
            CHECKS.outside("no block, " + block, () -> Made.works(1), h -> h.line(0, block, 1));
        }
        for (int work : Edge.besideNumbers(1)) {
            CHECKS.outside("work " + work, two, h -> h.line(work, 1, 1));
        }
    }

    private static void lineMoney() {
        CHECKS.sentence("Terms, 5: a line 2; if the house has not so much");
        KeyblockHouse just = Made.poor(2);
        CHECKS.due("with 2", just.line(1, 0, 300), 0);
        CHECKS.due("nothing left", just.purse(), 0);
        KeyblockHouse more = Made.poor(3);
        CHECKS.due("with 3", more.line(1, 0, 300), 0);
        CHECKS.due("one left", more.purse(), 1);
        CHECKS.due("one too little", Checks.answer(more, h -> h.line(1, 0, 300)), "IllegalStateException");
        CHECKS.badState("with 1", () -> Made.poor(1), h -> h.line(1, 0, 300));
        CHECKS.badState("with 0", () -> Made.poor(0), h -> h.line(1, 0, 1));
    }

    private static void lineOrder() {
        CHECKS.sentence("5 IndexOutOfBoundsException, IllegalArgumentException, IllegalStateException in this order");
        Supplier<KeyblockHouse> printed = () -> Made.printed(1, "sumi", "beni");
        for (int strength : new int[] {0, 301, Edge.LEAST, Edge.MOST}) {
            CHECKS.outside("no work, " + strength, printed, h -> h.line(1, 0, strength));
            CHECKS.outside("no block, " + strength, printed, h -> h.line(0, 2, strength));
            CHECKS.outside("no block, no money, " + strength, () -> Made.poor(0), h -> h.line(1, 1, strength));
            CHECKS.badArgument("printed, " + strength, printed, h -> h.line(0, 1, strength));
            CHECKS.badArgument("eight, " + strength, WorksAndBlocksEdgesTest::eight, h -> h.line(0, 0, strength));
            CHECKS.badArgument("no money, " + strength, () -> Made.poor(0), h -> h.line(1, 0, strength));
        }
        CHECKS.outside("no work, printed", printed, h -> h.line(-1, 0, 1));
        CHECKS.outside("no block, printed", printed, h -> h.line(0, -1, 1));
        CHECKS.outside("no work, no money", () -> Made.poor(0), h -> h.line(3, 0, 1));
        CHECKS.outside("no block, eight", WorksAndBlocksEdgesTest::eight, h -> h.line(0, 1, 1));
    }

    // ---- lines recut

    private static KeyblockHouse printedLines(int sheets, int... strengths) {
        KeyblockHouse house = Made.lines(strengths);
        for (int left = sheets; left > 0; left -= 100) {
            house.run(0, Math.min(left, 100));
        }
        return house;
    }

    private static void wouldBeBroken() {
        CHECKS.sentence("Terms, 6: a line that would be broken on the next sheet can be recut");
        for (int strength : new int[] {1, 2, 100, 299, 300}) {
            ToIntFunction<KeyblockHouse> call = h -> h.recut(0, 0, 0);
            CHECKS.badState("once yet, " + strength, () -> printedLines(strength - 1, strength), call);
            CHECKS.due("not once yet, " + strength, call.applyAsInt(printedLines(strength, strength)), strength);
            CHECKS.due("broken, " + strength, call.applyAsInt(printedLines(strength + 1, strength)), strength + 1);
        }
        CHECKS.badState("no sheet", () -> Made.lines(1), h -> h.recut(0, 0, 0));
        CHECKS.badState("no seal", () -> {
            KeyblockHouse house = Made.blocks("sumi");
            house.line(0, 0, 1);
            return house;
        }, h -> h.recut(0, 0, 0));
        CHECKS.due("400 sheets", printedLines(400, 1).recut(0, 0, 0), 400);
    }

    private static void printedZeroTimesAgain() {
        CHECKS.sentence("Terms: it has printed 0 times again");
        Supplier<KeyblockHouse> recut = () -> {
            KeyblockHouse house = printedLines(5, 3, 4);
            house.recut(0, 0, 0);
            return house;
        };
        CHECKS.badState("again at once", recut, h -> h.recut(0, 0, 0));
        KeyblockHouse house = recut.get();
        CHECKS.due("the other line stays broken", house.breaks(0, 0, 0), 0);
        CHECKS.due("the other line alone", house.breaks(0, 0, 1), KeyblockHouse.NONE);
        house.run(0, 2);
        CHECKS.due("once yet", Checks.answer(house, h -> h.recut(0, 0, 0)), "IllegalStateException");
        house.run(0, 1);
        CHECKS.due("whole on the third", house.broken(0, 7, 0), 0b10);
        CHECKS.due("then it can be recut", house.recut(0, 0, 0), 3);
        CHECKS.due("the other one has printed on", house.recut(0, 0, 1), 8);
    }

    private static void markForGood() {
        CHECKS.sentence("Terms: and has a mark for good");
        KeyblockHouse house = printedLines(2, 1, 1, 1, 1, 1, 1, 1, 1);
        house.recut(0, 0, 7);
        house.recut(0, 0, 0);
        house.run(0, 1);
        CHECKS.due("marks", house.marks(0, 2, 0), 0b10000001);
        house.recut(0, 0, 7);
        house.run(0, 100);
        house.run(0, 100);
        house.run(0, 100);
        CHECKS.due("marks stay", house.marks(0, 302, 0), 0b10000001);
        CHECKS.due("broken with a mark", house.broken(0, 302, 0), 0b11111111);
        CHECKS.due("no mark ahead of it", house.marks(0, 1, 0), 0);
    }

    private static void howOftenItHadPrinted() {
        CHECKS.sentence("6 Returns how often it had printed; once more with each sheet, whole or broken");
        KeyblockHouse house = printedLines(7, 1, 7, 4);
        CHECKS.due("the first", house.recut(0, 0, 0), 7);
        CHECKS.due("just at its end", house.recut(0, 0, 1), 7);
        house.run(0, 1);
        CHECKS.due("recut ahead of a sheet", house.recut(0, 0, 0), 1);
        CHECKS.due("not recut ahead", house.recut(0, 0, 2), 8);
    }

    private static void recutNoSuch() {
        CHECKS.sentence("6 IndexOutOfBoundsException as told");
        Supplier<KeyblockHouse> full = () -> printedLines(1, 1, 1, 1, 1, 1, 1, 1, 1);
        CHECKS.due("the last of eight", full.get().recut(0, 0, 7), 1);
        for (int line : Edge.besideNumbers(8)) {
            CHECKS.outside("line of eight " + line, full, h -> h.recut(0, 0, line));
        }
        for (int line : Edge.besideNumbers(0)) {
            CHECKS.outside("no line, " + line, () -> Made.printed(1, "sumi", "beni"), h -> h.recut(0, 1, line));
        }
        for (int none : Edge.besideNumbers(1)) {
            CHECKS.outside("line of one " + none, () -> printedLines(2, 1), h -> h.recut(0, 0, none));
            CHECKS.outside("block " + none, full, h -> h.recut(0, none, 0));
            CHECKS.outside("work " + none, full, h -> h.recut(none, 0, 0));
        }
        CHECKS.outside("no block", () -> Made.works(1), h -> h.recut(0, 0, 0));
    }

    private static void recutMoney() {
        CHECKS.sentence("Terms, 6: to recut one 5; if the house has not so much");
        KeyblockHouse just = Made.poor(5);
        CHECKS.due("with 5", just.recut(0, 0, 0), 400);
        CHECKS.due("nothing left", just.purse(), 0);
        KeyblockHouse more = Made.poor(6);
        CHECKS.due("with 6", more.recut(0, 0, 0), 400);
        CHECKS.due("one left", more.purse(), 1);
        for (int money : new int[] {4, 1, 0}) {
            CHECKS.badState("with " + money, () -> Made.poor(money), h -> h.recut(0, 0, 0));
            CHECKS.badState("with room, with " + money, () -> Made.poorAndWorn(money), h -> h.recut(0, 0, 0));
        }
        CHECKS.due("with room, with 5", Made.poorAndWorn(5).recut(0, 0, 0), 51);
    }

    private static void recutOrder() {
        CHECKS.sentence("6 IndexOutOfBoundsException ahead of IllegalStateException");
        CHECKS.outside("no work, no money", () -> Made.poor(0), h -> h.recut(3, 0, 0));
        CHECKS.outside("no block, no money", () -> Made.poor(0), h -> h.recut(0, 1, 0));
        CHECKS.outside("no line, no money", () -> Made.poor(0), h -> h.recut(0, 0, 1));
        CHECKS.outside("no line of a work not printed", () -> Made.lines(1), h -> h.recut(0, 0, 1));
    }
}
