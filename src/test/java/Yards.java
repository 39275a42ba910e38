import java.util.NoSuchElementException;

/** Objects in states that the tests begin with. */
class Yards {
    static final Class<IllegalArgumentException> ARGUMENT = IllegalArgumentException.class;
    static final Class<IllegalStateException> STATE = IllegalStateException.class;
    static final Class<IndexOutOfBoundsException> INDEX = IndexOutOfBoundsException.class;
    static final Class<NoSuchElementException> ELEMENT = NoSuchElementException.class;
    static final Class<UnsupportedOperationException> UNSUPPORTED = UnsupportedOperationException.class;
    static final Class<ArithmeticException> ARITHMETIC = ArithmeticException.class;

    static final int MIN = Integer.MIN_VALUE;
    static final int MAX = Integer.MAX_VALUE;
    /** The first numbers outside 0 to 300, and the last ones. */
    static final int[] FAR = {-1, 301, MIN, MAX};

    /** Types into the row as it is. */
    static GapYard typed(GapYard yard, int... numbers) {
        for (int number : numbers) {
            yard.type(number);
        }
        return yard;
    }

    static GapYard typed(int... numbers) {
        return typed(new GapYard(), numbers);
    }

    /** Adds the semigroup of some coins. */
    static int span(GapYard yard, int... coins) {
        yard.wipe();
        return typed(yard, coins).semigroup();
    }

    static int gaps(GapYard yard, int... gaps) {
        yard.wipe();
        return typed(yard, gaps).fromGaps();
    }

    /** Adds the ideal of some numbers from -150 to 150. */
    static int idealOf(GapYard yard, int semigroup, int... numbers) {
        yard.wipe();
        for (int number : numbers) {
            yard.type(number + 150);
        }
        return yard.ideal(semigroup);
    }

    static GapYard of(int... coins) {
        GapYard yard = new GapYard();
        span(yard, coins);
        return yard;
    }

    static GapYard ofGaps(int... gaps) {
        GapYard yard = new GapYard();
        gaps(yard, gaps);
        return yard;
    }

    /** The semigroup of all numbers. */
    static GapYard all() {
        return of(1);
    }

    /** Some semigroups: the last one is that of 3 and 5, those ahead of it are of 2 and 3. */
    static GapYard many(int count) {
        GapYard yard = new GapYard();
        for (int i = 1; i < count; i++) {
            span(yard, 2, 3);
        }
        span(yard, 3, 5);
        return yard;
    }

    /** Ten semigroups. */
    static GapYard full() {
        return many(10);
    }

    /** Some ideals of 3 and 5: each begins with its own number and 2 more. */
    static GapYard manyIdeals(int count) {
        GapYard yard = of(3, 5);
        for (int i = 0; i < count; i++) {
            idealOf(yard, 0, i, i + 2);
        }
        return yard;
    }

    /** Eight ideals. */
    static GapYard fullOfIdeals() {
        return manyIdeals(8);
    }

    /** Semigroup 1 has 0 and all from 70 on. */
    static GapYard fromSeventyOn() {
        GapYard yard = of(70, 71, 73, 79, 83, 89, 97, 101, 103, 107, 109, 113);
        yard.closure(0, 'r');
        return yard;
    }

    /** Semigroup 1 is looked at for 300, as the last number, which has 400 ways. */
    static GapYard fourHundredWays() {
        GapYard yard = of(83, 92, 106, 120, 114, 104, 74, 88, 70, 92, 78, 80);
        yard.closure(0, 'r');
        return yard;
    }

    /** Semigroup 1 is looked at for 234, which has 401 ways. */
    static GapYard oneWayMore() {
        GapYard yard = of(79, 52, 44, 44, 46, 44, 62, 68, 40, 76, 50, 70);
        yard.closure(0, 'r');
        return yard;
    }

    /** Semigroup 1 is looked at for 300 alone, of all the numbers that have more than 400 ways: it has 401. */
    static GapYard oneWayMoreAtLast() {
        GapYard yard = of(79, 80, 99, 141, 79, 88, 97, 86, 80, 84, 87, 74);
        yard.closure(0, 'r');
        return yard;
    }

    /**
     * The last semigroup has 0 and all from a number on, 295 to 300; from 300 on is the greatest conductor, genus,
     * multiplicity, type and number of generators. It is what 5, 7 and 11 with all behind 294 have in common.
     */
    static GapYard late(int first) {
        GapYard yard = of(5, 296, 297, 298, 299);
        span(yard, 7, 295, 296, 297, 298, 299, 300);
        span(yard, 11, 290, 291, 292, 293, 294, 295, 296, 297, 298, 299, 300);
        yard.meet(0, 1, false);
        yard.meet(3, 2, false);
        for (int n = 295; n < first; n++) {
            yard.without(lateOne(n), 0);
        }
        return yard;
    }

    /** The number of the semigroup that has all from a number on, 295 to 300. */
    static int lateOne(int first) {
        return first - 291;
    }

    /** What an object answers to calls that tell all that it holds; it is used up by that. */
    static String describe(GapYard yard) {
        StringBuilder text = new StringBuilder("row");
        for (int times = 1; times <= 4; times++) {
            int k = times;
            text.append(' ').append(Edges.answer(() -> yard.sums(k))).append('/').append(Edges.answer(() -> yard.stamps(k)));
        }
        text.append("; semigroups ").append(yard.checksum());
        for (int s = 0; s <= 10; s++) {
            int semigroup = s;
            text.append(' ').append(Edges.answer(() -> yard.generators(semigroup)));
        }
        text.append("; ideals");
        for (int i = 0; i <= 8; i++) {
            describeIdeal(yard, i, text);
        }
        text.append("; the next one typed ").append(Edges.answer(() -> yard.type(300)));
        text.append(", all typed ").append(yard.wipe()).append("; left ");
        // The ideals that go with each semigroup tell whose they were.
        for (int left = 0; left <= 10; left++) {
            text.append(Edges.answer(yard::drop)).append(':').append(countIdeals(yard)).append(' ');
        }
        return text.toString();
    }

    private static void describeIdeal(GapYard yard, int ideal, StringBuilder text) {
        String least = Edges.answer(() -> yard.least(ideal));
        text.append(' ').append(least).append(' ').append(Edges.answer(() -> yard.needs(ideal)));
        if (!least.startsWith("throws")) {
            for (int n = yard.least(ideal); n <= yard.least(ideal) + 9; n++) {
                text.append(yard.isIn(ideal, n) ? '+' : '-');
            }
        }
    }

    private static int countIdeals(GapYard yard) {
        for (int i = 0; i < 8; i++) {
            int ideal = i;
            if (Edges.answer(() -> yard.least(ideal)).startsWith("throws")) {
                return i;
            }
        }
        return 8;
    }
}
