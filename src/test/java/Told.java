import java.util.ArrayList;
import java.util.List;
import java.util.function.Supplier;
import java.util.function.ToIntFunction;

/**
 * All that a house tells, also what shows only in the answers of later calls: a list of texts, one for
 * each way to go on. Each way has a house of its own, made anew, since it uses the house up.
 */
final class Told {
    private static final String[] WORDS = {"sumi", "indigo", "beni", "gamboge", "prussian"};
    private static final int MOST_SHEETS_ASKED = 8;

    private final KeyblockHouse house;
    private final int works;
    private final StringBuilder text = new StringBuilder();

    private Told(String way, KeyblockHouse house) {
        this.house = house;
        this.works = worksOf(house);
        text.append(way);
    }

    static List<String> all(Supplier<KeyblockHouse> made) {
        List<String> ways = new ArrayList<>();
        int works = worksOf(made.get());
        ways.add(new Told("asked: ", made.get()).questions());
        ways.add(new Told("newest sheets: ", made.get()).newestSheets());
        ways.add(new Told("sold: ", made.get()).soldOneByOne());
        ways.add(new Told("told and full: ", made.get()).toldAndFull());
        for (int work = 0; work < works; work++) {
            ways.add(new Told("sheets of " + work + ": ", made.get()).sheets(work));
            ways.add(new Told("worn, work " + work + ": ", made.get()).worn(work));
        }
        int typed = typedLetters(made.get());
        for (String word : WORDS) {
            if (typed <= word.length()) {
                ways.add(new Told("typed up to " + word + ": ", made.get()).typedUp(word.substring(typed)));
            }
        }
        return ways;
    }

    private static int worksOf(KeyblockHouse house) {
        int works = 0;
        while (!Checks.answer(house, Calls.of("about", works, 0)).equals("IndexOutOfBoundsException")) {
            works++;
        }
        return works;
    }

    private static int typedLetters(KeyblockHouse house) {
        String answer = Checks.answer(house, h -> h.letter('z'));
        return answer.equals("IllegalStateException") ? 8 : Integer.parseInt(answer) - 1;
    }

    private int number(int work, int what) {
        return house.about(work, what);
    }

    private String tell(ToIntFunction<KeyblockHouse> call) {
        String answer = Checks.answer(house, call);
        text.append(answer).append(' ');
        return answer;
    }

    /** The call again and again, up to so often, until it is refused. */
    private void tellUntilRefused(int most, ToIntFunction<KeyblockHouse> call) {
        for (int i = 0; i < most && !tell(call).endsWith("Exception"); i++) {
            text.append("then ");
        }
    }

    private String questions() {
        tell(KeyblockHouse::purse);
        for (int work = 0; work < works; work++) {
            for (int what = 0; what <= 4; what++) {
                tell(Calls.of("about", work, what));
            }
            for (int block = 0; block < number(work, 0); block++) {
                for (int place = 0; place <= 8; place++) {
                    tell(Calls.of("breaks", work, block, place));
                }
            }
        }
        return text.toString();
    }

    private String sheets(int work) {
        int sheets = number(work, 1);
        int apart = Math.max(1, sheets / MOST_SHEETS_ASKED);
        for (int sheet = 0; sheet < sheets; sheet += apart) {
            sheet(work, sheet);
        }
        if (sheets > 0) {
            sheet(work, sheets - 1);
        }
        return text.toString();
    }

    private void sheet(int work, int sheet) {
        text.append("| ").append(sheet).append(": ");
        for (String question : new String[] {"state", "stateAnew", "owner"}) {
            tell(Calls.of(question, work, sheet));
        }
        for (int block = 0; block < number(work, 0); block++) {
            for (String question : new String[] {"broken", "marks", "strong", "off"}) {
                tell(Calls.of(question, work, sheet, block));
            }
        }
    }

    /** The month and the damp show on a sheet that is printed now. */
    private String newestSheets() {
        for (int work = 0; work < works; work++) {
            tell(Calls.of("run", work, 1));
        }
        tellUntilRefused(40, Calls.of("pass", 60));
        for (int work = 0; work < works; work++) {
            if (number(work, 1) > 0) {
                sheet(work, number(work, 1) - 1);
            }
        }
        tell(KeyblockHouse::purse);
        return text.toString();
    }

    /** The order of the bids shows in who gets the sheets. */
    private String soldOneByOne() {
        for (int work = 0; work < works; work++) {
            int asked = work;
            tell(Calls.of("run", work, 30));
            for (int left = number(work, 3); left > 0; left--) {
                tell(h -> h.sell(asked, 1));
            }
            for (int sheet = 0; sheet < 40; sheet++) {
                tell(Calls.of("owner", work, sheet));
            }
        }
        tell(KeyblockHouse::purse);
        return text.toString();
    }

    private String toldAndFull() {
        tell(Calls.of("letter", 'z'));
        tell(Calls.of("edict", 6));
        tell(Calls.of("damp", 0));
        tell(Calls.of("pass", 1));
        for (int work = 0; work < works; work++) {
            tell(Calls.of("seal", work));
            tellUntilRefused(31, Calls.of("bid", 3, work, 1));
            for (int block = 0; block < number(work, 0); block++) {
                tellUntilRefused(9, Calls.of("line", work, block, 7));
            }
        }
        tellUntilRefused(7, KeyblockHouse::work);
        tell(KeyblockHouse::purse);
        return text.toString();
    }

    /** How often a line has printed shows when it is recut; that takes money, which bids bring. */
    private String worn(int work) {
        tell(Calls.of("edict", 6));
        tell(Calls.of("seal", work));
        tellUntilRefused(31, Calls.of("bid", 4, work, 500));
        for (int sheets : new int[] {1, 10, 100, 100, 100, 100}) {
            tell(Calls.of("run", work, sheets));
            tell(Calls.of("sell", work, 30));
        }
        for (int block = 0; block < number(work, 0); block++) {
            for (int line = 0; line < 8; line++) {
                tell(Calls.of("recut", work, block, line));
            }
        }
        tell(Calls.of("about", work, 4));
        tell(Calls.of("run", work, 1));
        if (number(work, 1) > 0) {
            sheet(work, number(work, 1) - 1);
        }
        return text.toString();
    }

    /** Which letters are typed shows in the block that the word cuts, best in a work that has its sumi. */
    private String typedUp(String rest) {
        for (char letter : rest.toCharArray()) {
            tell(h -> h.letter(letter));
        }
        int work = openWork();
        if (work == works) {
            tell(KeyblockHouse::work);
        }
        tell(Calls.of("block", work));
        tell(KeyblockHouse::purse);
        for (int i = 0; i < works; i++) {
            tell(Calls.of("about", i, 0));
        }
        return text.toString();
    }

    /** The work without a seal that has the most blocks, but not six; one that is not there yet if there is none. */
    private int openWork() {
        int open = works;
        for (int work = 0; work < works; work++) {
            boolean takesOne = number(work, 2) == KeyblockHouse.NONE && number(work, 0) < 6;
            if (takesOne && (open == works || number(work, 0) > number(open, 0))) {
                open = work;
            }
        }
        return open;
    }
}
