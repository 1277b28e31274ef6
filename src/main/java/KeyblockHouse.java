import java.util.ArrayList;

/** A house that prints pictures from blocks of cherry wood, sells the sheets and knows their scars. */
public final class KeyblockHouse {
    public static final int NONE = -1;

    private static final int MOST_LETTERS = 8;
    private static final int MOST_WORKS = 6;
    private static final int MOST_BLOCKS = 6;
    private static final int MOST_LINES = 8;
    private static final int MOST_STRENGTH = 300;
    private static final int MOST_DAMP = 9;
    private static final int MOST_SHEETS = 400;
    private static final int MOST_SHEETS_AT_ONCE = 100;
    private static final int MOST_MONTHS_AT_ONCE = 60;
    private static final int LAST_MONTH = 2000;
    private static final int PEOPLE = 10;
    private static final int MOST_PRICE = 500;
    private static final int MOST_BIDS = 30;
    private static final int MOST_SOLD_AT_ONCE = 30;
    // A call adds one deed at most, and an object is used for 512 calls.
    private static final int MOST_DEEDS = 512;

    private static final int FIRST_MONEY = 500;
    private static final int BLOCK_COST = 20;
    private static final int LINE_COST = 2;
    private static final int RECUT_COST = 5;

    private static final int FULL_STRENGTH = 100;
    private static final int MONTHS_OF_A_RATE = 12;
    private static final int BLOCKS_OF_A_DAMP = 3;

    private static final Pigment[] PIGMENTS = Pigment.values();

    private final StringBuilder typed = new StringBuilder();
    private final ArrayList<Work> works = new ArrayList<>();
    private int month = 0;
    private int money = FIRST_MONEY;
    private int blocksAllowed = MOST_BLOCKS;
    private int dampNow = 0;

    public KeyblockHouse() {
    }

    // ---- works, blocks

    public int letter(char letter) throws IllegalArgumentException, IllegalStateException {
        if (letter < 'a' || letter > 'z') {
            throw new IllegalArgumentException("no letter from a to z");
        }
        if (typed.length() >= MOST_LETTERS) {
            throw new IllegalStateException("the word has 8 letters");
        }
        typed.append(letter);
        return typed.length();
    }

    public int work() throws IllegalStateException {
        if (works.size() >= MOST_WORKS) {
            throw new IllegalStateException("there are 6 works");
        }
        works.add(new Work());
        return works.size() - 1;
    }

    public int block(int work) throws IndexOutOfBoundsException, IllegalStateException {
        Work picture = workAt(work);
        int number = picture.blocks.size();
        if (number >= MOST_BLOCKS || picture.isSealed()) {
            throw new IllegalStateException("the work gets no more blocks");
        }
        mustHave(BLOCK_COST);
        Pigment pigment = pigmentOf(typed.toString());
        typed.setLength(0);
        if (pigment == null || (number == 0 && pigment != Pigment.SUMI)) {
            return NONE;
        }
        money -= BLOCK_COST;
        picture.addBlock(pigment);
        return number;
    }

    public int line(int work, int block, int strength)
            throws IndexOutOfBoundsException, IllegalArgumentException, IllegalStateException {
        Work picture = workAt(work);
        Block wood = blockAt(picture, block);
        mustBeWithin(strength, 1, MOST_STRENGTH);
        if (wood.lines >= MOST_LINES || picture.course.sheets > 0) {
            throw new IllegalStateException("the block gets no more lines");
        }
        mustHave(LINE_COST);
        money -= LINE_COST;
        return wood.addLine(strength);
    }

    public int recut(int work, int block, int line) throws IndexOutOfBoundsException, IllegalStateException {
        Work picture = workAt(work);
        Block wood = blockAt(picture, block);
        if (line < 0 || line >= wood.lines) {
            throw new IndexOutOfBoundsException("no such line");
        }
        if (picture.course.printsLeft(block, line) > 0) {
            throw new IllegalStateException("the line would not be broken");
        }
        mustHave(RECUT_COST);
        money -= RECUT_COST;
        picture.remember(new Deed(0, block, line));
        return picture.course.recutLine(block, line);
    }

    // ---- seals, runs

    public int edict(int blocks) throws IllegalArgumentException {
        mustBeWithin(blocks, 1, MOST_BLOCKS);
        int before = blocksAllowed;
        blocksAllowed = blocks;
        return before;
    }

    public int seal(int work) throws IndexOutOfBoundsException, IllegalStateException {
        Work picture = workAt(work);
        int blocks = picture.blocks.size();
        if (picture.isSealed() || blocks == 0 || blocks > blocksAllowed) {
            throw new IllegalStateException("the work can't be sealed");
        }
        picture.sealMonth = month;
        return month;
    }

    public int damp(int damp) throws IllegalArgumentException {
        mustBeWithin(damp, 0, MOST_DAMP);
        int before = dampNow;
        dampNow = damp;
        return before;
    }

    public int run(int work, int sheets)
            throws IndexOutOfBoundsException, IllegalArgumentException, IllegalStateException {
        Work picture = workAt(work);
        mustBeWithin(sheets, 1, MOST_SHEETS_AT_ONCE);
        int first = picture.course.sheets;
        if (!picture.isSealed() || first + sheets > MOST_SHEETS) {
            throw new IllegalStateException("the work can't be printed so often");
        }
        int cost = sheets * picture.blocks.size();
        mustHave(cost);
        money -= cost;
        picture.remember(new Deed(sheets, NONE, NONE));
        for (int i = 0; i < sheets; i++) {
            picture.addSheet(month, dampNow);
        }
        return first;
    }

    public int pass(int months) throws IllegalArgumentException, IllegalStateException {
        mustBeWithin(months, 1, MOST_MONTHS_AT_ONCE);
        if (month + months > LAST_MONTH) {
            throw new IllegalStateException("there is no month above 2000");
        }
        month += months;
        return month;
    }

    // ---- bids

    public int bid(int person, int work, int price)
            throws IndexOutOfBoundsException, IllegalArgumentException, IllegalStateException {
        if (person < 0 || person >= PEOPLE) {
            throw new IndexOutOfBoundsException("no such person");
        }
        Work picture = workAt(work);
        mustBeWithin(price, 1, MOST_PRICE);
        if (picture.bids.size() >= MOST_BIDS) {
            throw new IllegalStateException("there are 30 bids for the work");
        }
        picture.bids.add(new Bid(person, price));
        return picture.bids.size();
    }

    public int sell(int work, int most) throws IndexOutOfBoundsException, IllegalArgumentException {
        Work picture = workAt(work);
        mustBeWithin(most, 1, MOST_SOLD_AT_ONCE);
        int brought = 0;
        for (int i = 0; i < most && picture.canSell(); i++) {
            brought += picture.sellSheet();
        }
        money += brought;
        return brought;
    }

    // ---- questions

    public int broken(int work, int sheet, int block) throws IndexOutOfBoundsException {
        Work picture = workAt(work);
        mustHaveSheet(picture, sheet);
        return blockAt(picture, block).brokenOn[sheet];
    }

    public int marks(int work, int sheet, int block) throws IndexOutOfBoundsException {
        Work picture = workAt(work);
        mustHaveSheet(picture, sheet);
        return blockAt(picture, block).marksOn[sheet];
    }

    public int state(int work, int sheet) throws IndexOutOfBoundsException {
        Work picture = workAt(work);
        mustHaveSheet(picture, sheet);
        return picture.stateOf[sheet];
    }

    public int stateAnew(int work, int sheet) throws IndexOutOfBoundsException {
        Work picture = workAt(work);
        mustHaveSheet(picture, sheet);
        return picture.stateFromDeeds(sheet);
    }

    public int breaks(int work, int block, int place) throws IndexOutOfBoundsException {
        Work picture = workAt(work);
        Block wood = blockAt(picture, block);
        if (place < 0) {
            throw new IndexOutOfBoundsException("no such place");
        }
        for (int line = 0; line < wood.lines; line++) {
            if (picture.course.printsLeft(block, line) > 0 && placeOf(picture, block, line) == place) {
                return line;
            }
        }
        return NONE;
    }

    public int strong(int work, int sheet, int block) throws IndexOutOfBoundsException {
        Work picture = workAt(work);
        mustHaveSheet(picture, sheet);
        int rate = blockAt(picture, block).pigment.rate;
        int faded = rate * (month - picture.monthOf[sheet]) / MONTHS_OF_A_RATE;
        return Math.max(0, FULL_STRENGTH - faded);
    }

    public int off(int work, int sheet, int block) throws IndexOutOfBoundsException {
        Work picture = workAt(work);
        mustHaveSheet(picture, sheet);
        mustHaveBlock(picture, block);
        return picture.dampOf[sheet] * block / BLOCKS_OF_A_DAMP;
    }

    public int owner(int work, int sheet) throws IndexOutOfBoundsException {
        Work picture = workAt(work);
        mustHaveSheet(picture, sheet);
        return sheet < picture.sold ? picture.ownerOf[sheet] : NONE;
    }

    public int about(int work, int what) throws IndexOutOfBoundsException, IllegalArgumentException {
        Work picture = workAt(work);
        switch (what) {
            case 0:
                return picture.blocks.size();
            case 1:
                return picture.course.sheets;
            case 2:
                return picture.sealMonth;
            case 3:
                return picture.bids.size();
            case 4:
                return picture.course.nextState();
            default:
                throw new IllegalArgumentException("no such thing to tell of a work");
        }
    }

    public int purse() {
        return money;
    }

    // ---- what the calls look up and demand

    private Work workAt(int number) {
        if (number < 0 || number >= works.size()) {
            throw new IndexOutOfBoundsException("no such work");
        }
        return works.get(number);
    }

    private static Block blockAt(Work picture, int number) {
        mustHaveBlock(picture, number);
        return picture.blocks.get(number);
    }

    private static void mustHaveBlock(Work picture, int number) {
        if (number < 0 || number >= picture.blocks.size()) {
            throw new IndexOutOfBoundsException("no such block");
        }
    }

    private static void mustHaveSheet(Work picture, int number) {
        if (number < 0 || number >= picture.course.sheets || number >= MOST_SHEETS) {
            throw new IndexOutOfBoundsException("no such sheet");
        }
    }

    private static void mustBeWithin(int value, int least, int most) {
        if (value < least || value > most) {
            throw new IllegalArgumentException("out of range");
        }
    }

    private void mustHave(int cost) {
        if (money < cost) {
            throw new IllegalStateException("the house has not so much");
        }
    }

    private static Pigment pigmentOf(String word) {
        for (int i = 0; i < PIGMENTS.length; i++) {
            if (PIGMENTS[i].word.equals(word)) {
                return PIGMENTS[i];
            }
        }
        return null;
    }

    private static int placeOf(Work picture, int block, int line) {
        int left = picture.course.printsLeft(block, line);
        int ahead = 0;
        for (int other = 0; other < MOST_LINES; other++) {
            int otherLeft = picture.course.printsLeft(block, other);
            if (otherLeft > 0 && (otherLeft < left || (otherLeft == left && other < line))) {
                ahead++;
            }
        }
        return ahead;
    }

    // ---- what the house keeps

    private enum Pigment {
        SUMI("sumi", 0),
        INDIGO("indigo", 3),
        BENI("beni", 9),
        GAMBOGE("gamboge", 4),
        PRUSSIAN("prussian", 1);

        final String word;
        final int rate;

        Pigment(String word, int rate) {
            this.word = word;
            this.rate = rate;
        }
    }

    private static final class Work {
        final ArrayList<Block> blocks = new ArrayList<>();
        final ArrayList<Bid> bids = new ArrayList<>();
        final ArrayList<Deed> deeds = new ArrayList<>();
        final Course course = new Course();
        // Kept beside the true course so that going through the deeds once more makes no new rows.
        final Course courseAnew = new Course();
        final int[] monthOf = new int[MOST_SHEETS];
        final int[] dampOf = new int[MOST_SHEETS];
        final int[] stateOf = new int[MOST_SHEETS];
        final int[] ownerOf = new int[MOST_SHEETS];
        int sealMonth = NONE;
        // Sheets are sold by their numbers, so those below this one are sold and no others.
        int sold = 0;

        boolean isSealed() {
            return sealMonth != NONE;
        }

        void addBlock(Pigment pigment) {
            Block wood = new Block(pigment);
            blocks.add(wood);
            course.wears.add(new Wear(wood));
            courseAnew.wears.add(new Wear(wood));
        }

        void remember(Deed deed) {
            if (deeds.size() < MOST_DEEDS) {
                deeds.add(deed);
            }
        }

        void addSheet(int month, int damp) {
            int sheet = course.sheets;
            if (sheet < 0 || sheet >= MOST_SHEETS) {
                return;
            }
            course.printSheet();
            monthOf[sheet] = month;
            dampOf[sheet] = damp;
            stateOf[sheet] = course.lastState;
            for (int i = 0; i < blocks.size() && i < course.wears.size(); i++) {
                blocks.get(i).brokenOn[sheet] = course.wears.get(i).lastBroken;
                blocks.get(i).marksOn[sheet] = course.wears.get(i).lastMarks;
            }
        }

        int stateFromDeeds(int sheet) {
            courseAnew.startOver();
            for (int i = 0; i < deeds.size(); i++) {
                Deed deed = deeds.get(i);
                if (deed.isRecut()) {
                    courseAnew.recutLine(deed.block, deed.line);
                }
                for (int k = 0; k < deed.sheets && courseAnew.sheets <= sheet; k++) {
                    courseAnew.printSheet();
                }
                if (courseAnew.sheets > sheet) {
                    break;
                }
            }
            return courseAnew.lastState;
        }

        boolean canSell() {
            return sold < course.sheets && bids.size() > 0;
        }

        int sellSheet() {
            int best = greatestBid();
            if (best < 0 || best >= bids.size() || sold < 0 || sold >= MOST_SHEETS) {
                return 0;
            }
            Bid taken = bids.get(best);
            bids.remove(best);
            ownerOf[sold] = taken.person;
            sold++;
            return taken.price;
        }

        int greatestBid() {
            int best = NONE;
            int bestPrice = 0;
            for (int i = 0; i < bids.size(); i++) {
                if (bids.get(i).price > bestPrice) {
                    best = i;
                    bestPrice = bids.get(i).price;
                }
            }
            return best;
        }
    }

    private static final class Block {
        final Pigment pigment;
        final int[] strengths = new int[MOST_LINES];
        final int[] brokenOn = new int[MOST_SHEETS];
        final int[] marksOn = new int[MOST_SHEETS];
        int lines = 0;

        Block(Pigment pigment) {
            this.pigment = pigment;
        }

        int addLine(int strength) {
            int number = lines;
            if (number < 0 || number >= MOST_LINES) {
                return NONE;
            }
            strengths[number] = strength;
            lines = number + 1;
            return number;
        }
    }

    /** How the blocks of a work wear from sheet to sheet: once as it comes, and once more from the deeds. */
    private static final class Course {
        final ArrayList<Wear> wears = new ArrayList<>();
        int sheets = 0;
        int lastState = 0;

        void startOver() {
            sheets = 0;
            lastState = 0;
            for (int i = 0; i < wears.size(); i++) {
                wears.get(i).makeNew();
            }
        }

        int nextState() {
            if (sheets == 0) {
                return 0;
            }
            for (int i = 0; i < wears.size(); i++) {
                if (wears.get(i).hasOtherScars()) {
                    return lastState + 1;
                }
            }
            return lastState;
        }

        void printSheet() {
            lastState = nextState();
            for (int i = 0; i < wears.size(); i++) {
                wears.get(i).printLines();
            }
            sheets++;
        }

        /** How often a line prints yet before it breaks; 0 or less if it would be broken on the next sheet. */
        int printsLeft(int block, int line) {
            if (block < 0 || block >= wears.size()) {
                return 0;
            }
            return wears.get(block).left(line);
        }

        int recutLine(int block, int line) {
            if (block < 0 || block >= wears.size()) {
                return 0;
            }
            return wears.get(block).cutAgain(line);
        }
    }

    /** How the lines of one block have printed, and the scars that they left on the last sheet. */
    private static final class Wear {
        final Block wood;
        final int[] printed = new int[MOST_LINES];
        int marksNow = 0;
        int lastBroken = 0;
        int lastMarks = 0;

        Wear(Block wood) {
            this.wood = wood;
        }

        void makeNew() {
            for (int i = 0; i < MOST_LINES; i++) {
                printed[i] = 0;
            }
            marksNow = 0;
            lastBroken = 0;
            lastMarks = 0;
        }

        int left(int line) {
            if (line < 0 || line >= wood.lines || line >= MOST_LINES) {
                return 0;
            }
            return wood.strengths[line] - printed[line];
        }

        int brokenNext() {
            int bits = 0;
            for (int i = 0; i < wood.lines; i++) {
                if (left(i) <= 0) {
                    bits |= 1 << i;
                }
            }
            return bits;
        }

        boolean hasOtherScars() {
            return brokenNext() != lastBroken || marksNow != lastMarks;
        }

        void printLines() {
            lastBroken = brokenNext();
            lastMarks = marksNow;
            for (int i = 0; i < wood.lines && i < MOST_LINES; i++) {
                printed[i]++;
            }
        }

        int cutAgain(int line) {
            if (line < 0 || line >= MOST_LINES) {
                return 0;
            }
            int before = printed[line];
            printed[line] = 0;
            marksNow |= 1 << line;
            return before;
        }
    }

    /** A run of so many sheets, or, with none, a line that was recut. */
    private static final class Deed {
        final int sheets;
        final int block;
        final int line;

        Deed(int sheets, int block, int line) {
            this.sheets = sheets;
            this.block = block;
            this.line = line;
        }

        boolean isRecut() {
            return sheets == 0;
        }
    }

    private static final class Bid {
        final int person;
        final int price;

        Bid(int person, int price) {
            this.person = person;
            this.price = price;
        }
    }
}
