import java.util.stream.IntStream;

/** Values that are out of a range. */
final class Edge {
    static final int LEAST = Integer.MIN_VALUE;
    static final int MOST = Integer.MAX_VALUE;

    private Edge() {
    }

    /**
     * The values beside a range, the least and the greatest int, and values that would be in the range
     * if their upper bits were lost.
     */
    static int[] beside(int least, int most) {
        return IntStream.of(least - 1, most + 1, LEAST, MOST, LEAST + least, LEAST + most, -most,
                least + 256, most + 256, least + 65536, most + 65536)
            .filter(value -> value < least || value > most).distinct().toArray();
    }

    /** The numbers beside those from 0 of so many things; none of these is there. */
    static int[] besideNumbers(int count) {
        return beside(0, count - 1);
    }
}
