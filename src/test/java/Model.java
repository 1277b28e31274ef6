import java.util.ArrayList;
import java.util.Arrays;
import java.util.List;

/**
 * The document once more, told in another way than the class: nothing is stored that can be found
 * from what was done, and a sheet's scars are found from the sheets on which its lines were cut.
 */
final class Model {
    private static final List<String> WORDS = Arrays.asList("sumi", "indigo", "beni", "gamboge", "prussian");
    private static final int[] RATES = {0, 3, 9, 4, 1};

    /** A line; it was cut, and cut again, when the work had so many sheets. */
    private static final class Line {
        int strength;
        List<Integer> cuts = new ArrayList<>(List.of(0));

        /** The last cut counts that was made when the work had no more sheets than this number. */
        int printedAheadOf(int sheet) {
            int last = 0;
            for (int cut : cuts) {
                if (cut <= sheet) {
                    last = cut;
                }
            }
            return sheet - last;
        }

        boolean brokenOn(int sheet) {
            return printedAheadOf(sheet) >= strength;
        }

        boolean markedOn(int sheet) {
            return cuts.size() > 1 && cuts.get(1) <= sheet;
        }
    }

    private static final class Block {
        int pigment;
        List<Line> lines = new ArrayList<>();

        int broken(int sheet) {
            int bits = 0;
            for (int i = 0; i < lines.size(); i++) {
                bits += lines.get(i).brokenOn(sheet) ? 1 << i : 0;
            }
            return bits;
        }

        int marked(int sheet) {
            int bits = 0;
            for (int i = 0; i < lines.size(); i++) {
                bits += lines.get(i).markedOn(sheet) ? 1 << i : 0;
            }
            return bits;
        }
    }

    private static final class Work {
        List<Block> blocks = new ArrayList<>();
        List<int[]> monthAndDamp = new ArrayList<>();
        List<int[]> bids = new ArrayList<>();
        List<Integer> owners = new ArrayList<>();
        int seal = -1;

        int sheets() {
            return monthAndDamp.size();
        }

        String scars(int sheet) {
            StringBuilder text = new StringBuilder();
            for (Block block : blocks) {
                text.append(block.broken(sheet)).append('/').append(block.marked(sheet)).append(' ');
            }
            return text.toString();
        }

        int state(int sheet) {
            int state = 0;
            for (int i = 1; i <= sheet; i++) {
                state += scars(i).equals(scars(i - 1)) ? 0 : 1;
            }
            return state;
        }
    }

    private final List<Work> works = new ArrayList<>();
    private String typed = "";
    private int month = 0;
    private int purse = 500;
    private int edict = 6;
    private int damp = 0;

    /** The answer of a call, or the name of its exception. */
    String call(String name, int... a) {
        try {
            return String.valueOf(answer(name, a));
        } catch (IndexOutOfBoundsException | IllegalArgumentException | IllegalStateException e) {
            return e.getClass().getSimpleName();
        }
    }

    private int answer(String name, int[] a) {
        switch (name) {
            case "letter": return letter((char) a[0]);
            case "work": return work();
            case "block": return block(at(a[0]));
            case "line": return line(at(a[0]), a[1], a[2]);
            case "recut": return recut(at(a[0]), a[1], a[2]);
            case "edict": return edict(a[0]);
            case "seal": return seal(at(a[0]));
            case "damp": return damp(a[0]);
            case "run": return run(at(a[0]), a[1]);
            case "pass": return pass(a[0]);
            case "bid": return bid(a[0], a[1], a[2]);
            case "sell": return sell(at(a[0]), a[1]);
            case "purse": return purse;
            default: return question(name, at(a[0]), a);
        }
    }

    private int question(String name, Work w, int[] a) {
        switch (name) {
            case "broken": return blockOf(w, a[2]).broken(sheetOf(w, a[1]));
            case "marks": return blockOf(w, a[2]).marked(sheetOf(w, a[1]));
            case "state": return w.state(sheetOf(w, a[1]));
            case "stateAnew": return w.state(sheetOf(w, a[1]));
            case "breaks": return breaks(w, blockOf(w, a[1]), a[2]);
            case "strong": return strong(w, sheetOf(w, a[1]), blockOf(w, a[2]));
            case "off": return off(w, sheetOf(w, a[1]), a[2]);
            case "owner": return owner(w, sheetOf(w, a[1]));
            case "about": return about(w, a[1]);
            default: throw new AssertionError(name);
        }
    }

    private static void index(boolean right) {
        if (!right) {
            throw new IndexOutOfBoundsException();
        }
    }

    private static void range(int value, int least, int most) {
        if (value < least || value > most) {
            throw new IllegalArgumentException();
        }
    }

    private static void state(boolean right) {
        if (!right) {
            throw new IllegalStateException();
        }
    }

    private Work at(int work) {
        index(work >= 0 && work < works.size());
        return works.get(work);
    }

    private static Block blockOf(Work w, int block) {
        index(block >= 0 && block < w.blocks.size());
        return w.blocks.get(block);
    }

    private static int sheetOf(Work w, int sheet) {
        index(sheet >= 0 && sheet < w.sheets());
        return sheet;
    }

    private int letter(char letter) {
        range(letter, 'a', 'z');
        state(typed.length() < 8);
        typed += letter;
        return typed.length();
    }

    private int work() {
        state(works.size() < 6);
        works.add(new Work());
        return works.size() - 1;
    }

    private int block(Work w) {
        state(w.blocks.size() < 6 && w.seal < 0 && purse >= 20);
        int pigment = WORDS.indexOf(typed);
        typed = "";
        if (pigment < 0 || (w.blocks.isEmpty() && pigment != 0)) {
            return -1;
        }
        purse -= 20;
        Block block = new Block();
        block.pigment = pigment;
        w.blocks.add(block);
        return w.blocks.size() - 1;
    }

    private int line(Work w, int block, int strength) {
        Block b = blockOf(w, block);
        range(strength, 1, 300);
        state(b.lines.size() < 8 && w.sheets() == 0 && purse >= 2);
        purse -= 2;
        Line line = new Line();
        line.strength = strength;
        b.lines.add(line);
        return b.lines.size() - 1;
    }

    private int recut(Work w, int block, int line) {
        Block b = blockOf(w, block);
        index(line >= 0 && line < b.lines.size());
        Line l = b.lines.get(line);
        state(l.brokenOn(w.sheets()) && purse >= 5);
        purse -= 5;
        int printed = l.printedAheadOf(w.sheets());
        l.cuts.add(w.sheets());
        return printed;
    }

    private int edict(int blocks) {
        range(blocks, 1, 6);
        int before = edict;
        edict = blocks;
        return before;
    }

    private int seal(Work w) {
        state(w.seal < 0 && !w.blocks.isEmpty() && w.blocks.size() <= edict);
        w.seal = month;
        return month;
    }

    private int damp(int told) {
        range(told, 0, 9);
        int before = damp;
        damp = told;
        return before;
    }

    private int run(Work w, int sheets) {
        range(sheets, 1, 100);
        int first = w.sheets();
        int cost = sheets * w.blocks.size();
        state(w.seal >= 0 && first + sheets <= 400 && purse >= cost);
        purse -= cost;
        for (int i = 0; i < sheets; i++) {
            w.monthAndDamp.add(new int[] {month, damp});
        }
        return first;
    }

    private int pass(int months) {
        range(months, 1, 60);
        state(month + months <= 2000);
        month += months;
        return month;
    }

    private int bid(int person, int work, int price) {
        index(person >= 0 && person < 10);
        Work w = at(work);
        range(price, 1, 500);
        state(w.bids.size() < 30);
        w.bids.add(new int[] {person, price});
        return w.bids.size();
    }

    private int sell(Work w, int most) {
        range(most, 1, 30);
        List<int[]> ranked = new ArrayList<>(w.bids);
        ranked.sort((x, y) -> y[1] - x[1]);
        int free = w.sheets() - w.owners.size();
        int sold = Math.min(most, Math.min(free, ranked.size()));
        int brought = 0;
        for (int[] bid : ranked.subList(0, sold)) {
            w.bids.remove(bid);
            w.owners.add(bid[0]);
            brought += bid[1];
        }
        purse += brought;
        return brought;
    }

    private static int breaks(Work w, Block b, int place) {
        index(place >= 0);
        List<Integer> order = new ArrayList<>();
        for (int i = 0; i < b.lines.size(); i++) {
            if (!b.lines.get(i).brokenOn(w.sheets())) {
                order.add(i);
            }
        }
        order.sort((x, y) -> left(w, b, x) - left(w, b, y));
        return place < order.size() ? order.get(place) : -1;
    }

    private static int left(Work w, Block b, int line) {
        return b.lines.get(line).strength - b.lines.get(line).printedAheadOf(w.sheets());
    }

    private int strong(Work w, int sheet, Block b) {
        int months = month - w.monthAndDamp.get(sheet)[0];
        return Math.max(0, 100 - (int) Math.floor(RATES[b.pigment] * months / 12.0));
    }

    private static int off(Work w, int sheet, int block) {
        blockOf(w, block);
        return (int) Math.floor(w.monthAndDamp.get(sheet)[1] * block / 3.0 + 1e-9);
    }

    private static int owner(Work w, int sheet) {
        return sheet < w.owners.size() ? w.owners.get(sheet) : -1;
    }

    private static int about(Work w, int what) {
        range(what, 0, 4);
        int[] told = {w.blocks.size(), w.sheets(), w.seal, w.bids.size(), 0};
        told[4] = w.sheets() == 0 ? 0 : w.state(w.sheets());
        return told[what];
    }

    // What a run of calls is steered by.

    int workCount() {
        return works.size();
    }

    int count(int work, int what) {
        return work < 0 || work >= works.size() ? 0 : what == 0 ? works.get(work).blocks.size()
            : works.get(work).sheets();
    }
}
