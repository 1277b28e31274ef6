import java.util.function.ToIntFunction;

/** All that a house tells, hidden things too, in one text; it uses the house up. */
final class Told {
    private final KeyblockHouse house;
    private final StringBuilder text = new StringBuilder();

    private Told(KeyblockHouse house) {
        this.house = house;
    }

    static String all(KeyblockHouse house) {
        Told told = new Told(house);
        told.tell(KeyblockHouse::purse);
        for (int work = 0; told.number(work, 0) >= 0; work++) {
            told.tellWork(work);
        }
        told.probe();
        return told.text.toString();
    }

    private void tell(ToIntFunction<KeyblockHouse> call) {
        text.append(Checks.answer(house, call)).append(' ');
    }

    private int number(int work, int what) {
        try {
            return house.about(work, what);
        } catch (IndexOutOfBoundsException e) {
            return -1;
        }
    }

    private void tellWork(int work) {
        text.append("\nwork ").append(work).append(": ");
        for (int what = 0; what <= 4; what++) {
            int asked = what;
            tell(h -> h.about(work, asked));
        }
        int blocks = number(work, 0);
        int sheets = number(work, 1);
        for (int block = 0; block < blocks; block++) {
            tellOrder(work, block);
        }
        tellSheet(work, 0, sheets, blocks);
        tellSheet(work, 1, sheets - 1, blocks);
        tellSheet(work, sheets - 1, sheets, blocks);
    }

    private void tellOrder(int work, int block) {
        text.append("| ");
        for (int place = 0; place <= 8; place++) {
            int asked = place;
            tell(h -> h.breaks(work, block, asked));
        }
    }

    private void tellSheet(int work, int sheet, int sheets, int blocks) {
        if (sheet < 0 || sheet >= sheets) {
            return;
        }
        text.append("\n sheet ").append(sheet).append(": ");
        tell(h -> h.state(work, sheet));
        tell(h -> h.stateAnew(work, sheet));
        tell(h -> h.owner(work, sheet));
        for (int block = 0; block < blocks; block++) {
            int asked = block;
            tell(h -> h.broken(work, sheet, asked));
            tell(h -> h.marks(work, sheet, asked));
            tell(h -> h.strong(work, sheet, asked));
            tell(h -> h.off(work, sheet, asked));
        }
    }

    /** Some things show only in what a call answers that changes them. */
    private void probe() {
        text.append("\nprobed: ");
        tell(h -> h.letter('z'));
        tell(h -> h.edict(6));
        tell(h -> h.damp(0));
        tell(h -> h.pass(1));
        for (int work = 0; number(work, 0) >= 0; work++) {
            int asked = work;
            tell(h -> h.sell(asked, 30));
            tell(h -> h.about(asked, 3));
            tell(h -> h.run(asked, 1));
            tell(h -> h.line(asked, 0, 1));
            tell(h -> h.about(asked, 4));
        }
        tell(KeyblockHouse::purse);
    }
}
