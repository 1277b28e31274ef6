import java.util.function.Supplier;

/** Houses as the tests want them, made by calls alone. */
final class Made {
    /** Words for as many blocks as a work has at most. */
    static final String[] SIX = {"sumi", "prussian", "gamboge", "sumi", "indigo", "beni"};

    private Made() {
    }

    static void type(KeyblockHouse house, String word) {
        for (char letter : word.toCharArray()) {
            house.letter(letter);
        }
    }

    static int cut(KeyblockHouse house, int work, String word) {
        type(house, word);
        return house.block(work);
    }

    static KeyblockHouse works(int count) {
        KeyblockHouse house = new KeyblockHouse();
        for (int i = 0; i < count; i++) {
            house.work();
        }
        return house;
    }

    /** The work 0 with these blocks, not sealed. */
    static KeyblockHouse blocks(String... words) {
        KeyblockHouse house = works(1);
        for (String word : words) {
            cut(house, 0, word);
        }
        return house;
    }

    /** The work 0 with a block sumi with lines so strong, sealed. */
    static KeyblockHouse lines(int... strengths) {
        KeyblockHouse house = blocks("sumi");
        for (int strength : strengths) {
            house.line(0, 0, strength);
        }
        house.seal(0);
        return house;
    }

    /** The work 0 with blocks of these pigments, sealed, and a run of so many sheets. */
    static KeyblockHouse printed(int sheets, String... words) {
        KeyblockHouse house = blocks(words);
        house.seal(0);
        house.run(0, sheets);
        return house;
    }

    /**
     * A house with so much money, 38 at most: the work 0 is printed 400 times and its line is broken,
     * the work 1 has a block and no seal, the work 2 has a seal.
     */
    static KeyblockHouse poor(int left) {
        KeyblockHouse house = works(3);
        for (int work = 0; work < 3; work++) {
            cut(house, work, "sumi");
        }
        house.line(0, 0, 1);
        house.seal(0);
        house.seal(2);
        for (int i = 0; i < 4; i++) {
            house.run(0, 100);
        }
        if (left < 38) {
            house.run(2, 38 - left);
        }
        return house;
    }

    /**
     * A house with so much money, 52 at most: a line of the work 0 is broken, its other one prints yet, and
     * it has room for more sheets, so that later ones tell what a refused call has done to its lines.
     */
    static KeyblockHouse poorAndWorn(int left) {
        KeyblockHouse house = lines(1, 300);
        house.work();
        cut(house, 1, "sumi");
        house.seal(1);
        for (int i = 0; i < 4; i++) {
            house.run(1, 100);
        }
        house.run(0, 56 - left);
        return house;
    }

    /** The same house in the month 2000. */
    static Supplier<KeyblockHouse> old(Supplier<KeyblockHouse> made) {
        return () -> {
            KeyblockHouse house = made.get();
            for (int i = 0; i < 33; i++) {
                house.pass(60);
            }
            house.pass(20);
            return house;
        };
    }

    static Supplier<KeyblockHouse> typed(Supplier<KeyblockHouse> made, String word) {
        return () -> {
            KeyblockHouse house = made.get();
            type(house, word);
            return house;
        };
    }
}
