import java.util.List;
import java.util.function.Supplier;
import java.util.function.ToIntFunction;

/** What the tests share: counts what is due, and looks at calls that must be refused. */
final class Checks {
    private int right = 0;
    private int wrong = 0;
    private String sentence = "";
    private int answersOfSentence = 1;
    private Supplier<KeyblockHouse> lastMade = null;
    private List<String> toldOfLastMade = null;

    /** What follows looks at this sentence of the document; a sentence without an answer is a fault. */
    void sentence(String words) {
        endSentence();
        sentence = words + " | ";
        answersOfSentence = 0;
    }

    private void endSentence() {
        if (answersOfSentence == 0) {
            wrong++;
            System.out.println(sentence + "nothing looked at it");
        }
    }

    void due(String what, Object got, Object want) {
        answersOfSentence++;
        if (want.equals(got)) {
            right++;
        } else {
            wrong++;
            System.out.println(sentence + what + ": answered " + got + ", due is " + want);
        }
    }

    /** The call must throw just this exception, by a throw of the class itself, and change nothing. */
    void refused(String what, Class<? extends RuntimeException> want, Supplier<KeyblockHouse> made,
            ToIntFunction<KeyblockHouse> call) {
        due(what, answer(made.get(), call), want.getSimpleName());
        changesNothing(what, made, call);
    }

    /** All that is told behind the call must be as without it. */
    void changesNothing(String what, Supplier<KeyblockHouse> made, ToIntFunction<KeyblockHouse> call) {
        if (made != lastMade) {
            lastMade = made;
            toldOfLastMade = Told.all(made);
        }
        List<String> told = Told.all(() -> {
            KeyblockHouse house = made.get();
            answer(house, call);
            return house;
        });
        due(what + ", ways to go on behind it", told.size(), toldOfLastMade.size());
        for (int i = 0; i < told.size() && i < toldOfLastMade.size(); i++) {
            if (!told.get(i).equals(toldOfLastMade.get(i))) {
                due(what + ", what is told behind it", told.get(i), toldOfLastMade.get(i));
            }
        }
    }

    void outside(String what, Supplier<KeyblockHouse> made, ToIntFunction<KeyblockHouse> call) {
        refused(what, IndexOutOfBoundsException.class, made, call);
    }

    void badArgument(String what, Supplier<KeyblockHouse> made, ToIntFunction<KeyblockHouse> call) {
        refused(what, IllegalArgumentException.class, made, call);
    }

    void badState(String what, Supplier<KeyblockHouse> made, ToIntFunction<KeyblockHouse> call) {
        refused(what, IllegalStateException.class, made, call);
    }

    /** The answer as a text, or the name of the exception; one that the machine throws is told apart. */
    static String answer(KeyblockHouse house, ToIntFunction<KeyblockHouse> call) {
        try {
            return String.valueOf(call.applyAsInt(house));
        } catch (RuntimeException e) {
            StackTraceElement[] trace = e.getStackTrace();
            boolean own = trace.length > 0 && trace[0].getClassName().startsWith("KeyblockHouse");
            return own ? e.getClass().getSimpleName() : "the machine's " + e;
        }
    }

    void finish(String name) {
        endSentence();
        System.out.println(name + ": " + right + " answers as due, " + wrong + " not");
        if (wrong != 0 || right == 0) {
            System.exit(1);
        }
    }
}
