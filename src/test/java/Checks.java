import java.util.function.Supplier;
import java.util.function.ToIntFunction;

/** What the tests share: counts what is due, and looks at calls that must be refused. */
final class Checks {
    private int right = 0;
    private int wrong = 0;

    void due(String what, Object got, Object want) {
        if (want.equals(got)) {
            right++;
        } else {
            wrong++;
            System.out.println(what + ": answered " + got + ", due is " + want);
        }
    }

    /** The call must throw just this exception, by a throw of the class itself, and change nothing. */
    void refused(String what, Class<? extends RuntimeException> want, Supplier<KeyblockHouse> made,
            ToIntFunction<KeyblockHouse> call) {
        KeyblockHouse house = made.get();
        due(what, answer(house, call), want.getSimpleName());
        due(what + ", what is told behind it", Told.all(house), Told.all(made.get()));
    }

    void outside(String what, Supplier<KeyblockHouse> made, ToIntFunction<KeyblockHouse> call) {
        refused(what, IndexOutOfBoundsException.class, made, call);
    }

    void badArgument(String what, Supplier<KeyblockHouse> made, ToIntFunction<KeyblockHouse> call) {
        refused(what, IllegalArgumentException.class, made, call);
    }

    void badState(String what, Supplier<KeyblockHouse> made, ToIntFunction<KeyblockHouse> call) {
        refused(what, IllegalStateException.class, made, call);
    }

    /** The answer as a text, or the name of the exception; one that the machine throws is told apart. */
    static String answer(KeyblockHouse house, ToIntFunction<KeyblockHouse> call) {
        try {
            return String.valueOf(call.applyAsInt(house));
        } catch (RuntimeException e) {
            StackTraceElement[] trace = e.getStackTrace();
            boolean own = trace.length > 0 && trace[0].getClassName().startsWith("KeyblockHouse");
            return own ? e.getClass().getSimpleName() : "the machine's " + e;
        }
    }

    void finish(String name) {
        System.out.println(name + ": " + right + " answers as due, " + wrong + " not");
        if (wrong != 0 || right == 0) {
            System.exit(1);
        }
    }
}
