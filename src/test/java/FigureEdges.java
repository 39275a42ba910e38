import java.math.BigInteger;

/** Figures: promises 51 to 54. */
final class FigureEdges extends Yards {
    private final Edges edges;

    FigureEdges(Edges edges) {
        this.edges = edges;
    }

    void run() {
        share();
        meanGenus();
        checksum();
        checksumWraps();
        isSound();
    }

    private void share() {
        edges.edge(51, "if the conductor is 0", "all numbers; with one gap it is 2");
        edges.refused(ARITHMETIC, () -> all(), yard -> yard.share(0));
        edges.refused(ARITHMETIC, () -> ofGaps(), yard -> yard.share(0));
        edges.due(0.5f, () -> of(2, 3).share(0));
        edges.edge(51, "Returns the share of the numbers below the conductor that are elements.", "0 alone, and the greatest conductor");
        edges.due(1f / 300f, () -> late(300).share(9));
        edges.due(0.5f, () -> of(4, 101).share(0));
        edges.edge(51, "Returns their number divided by the conductor, both converted to float.", "a third is one of float");
        edges.due(1f / 3f, () -> of(3, 4, 5).share(0));
        edges.due((float) 6 / (float) 14, () -> of(5, 7, 9).share(0));
    }

    private void meanGenus() {
        edges.edge(52, "if there are none", "a new object, and one whose last has been taken away");
        edges.refused(ARITHMETIC, GapYard::new, GapYard::meanGenus);
        edges.refused(ARITHMETIC, () -> {
            GapYard yard = of(3, 5);
            yard.drop();
            return yard;
        }, GapYard::meanGenus);
        edges.edge(52, "Returns the mean genus of all semigroups.", "one, with and without gaps, and ten");
        edges.due(0.0, () -> all().meanGenus());
        edges.due(4.0, () -> of(3, 5).meanGenus());
        edges.due((9 * 1 + 4) / 10.0, () -> full().meanGenus());
        edges.edge(52, "Returns the sum divided by their number, both converted to double.", "a third is one of double");
        GapYard yard = of(3, 5, 7);
        span(yard, 1);
        span(yard, 3, 5);
        edges.due(7.0 / 3.0, yard::meanGenus);
    }

    private void checksum() {
        String words = "Returns 7 at first, then for each semigroup, and each of its gaps, by rising numbers, 31 times itself plus the gap; "
                + "then 31 times itself plus the genus.";
        edges.edge(53, words, "without semigroups");
        edges.due(7L, () -> new GapYard().checksum());
        edges.edge(53, words, "one without gaps, one with one");
        edges.due(7L * 31, () -> all().checksum());
        edges.due((7L * 31 + 1) * 31 + 1, () -> of(2, 3).checksum());
        edges.edge(53, "Returns a sum over all semigroups.", "the order counts, and each of ten");
        GapYard yard = of(2, 3);
        span(yard, 1);
        edges.due(((7L * 31 + 1) * 31 + 1) * 31, yard::checksum);
        GapYard other = all();
        span(other, 2, 3);
        edges.due((7L * 31 * 31 + 1) * 31 + 1, other::checksum);
        long ten = 7;
        for (int i = 0; i < 9; i++) {
            ten = (ten * 31 + 1) * 31 + 1;
        }
        for (int number : new int[] {1, 2, 4, 7, 4}) {
            ten = ten * 31 + number;
        }
        long due = ten;
        edges.due(due, () -> full().checksum());
    }

    /** The sum by numbers without bounds, and then within a long. */
    private static long wrapped(int... gaps) {
        BigInteger sum = BigInteger.valueOf(7);
        for (int gap : gaps) {
            sum = sum.multiply(BigInteger.valueOf(31)).add(BigInteger.valueOf(gap));
        }
        return sum.multiply(BigInteger.valueOf(31)).add(BigInteger.valueOf(gaps.length)).longValue();
    }

    private void checksumWraps() {
        String words = "31 times itself plus the gap";
        edges.edge(53, words, "eleven gaps are the most with which it stays within a long");
        int[] eleven = {1, 2, 3, 4, 5, 6, 7, 8, 9, 10, 11};
        edges.due(wrapped(eleven), () -> ofGaps(eleven).checksum());
        edges.due(true, () -> ofGaps(eleven).checksum() > 7L * 31 * 31 * 31);
        edges.edge(53, words, "with twelve gaps it wraps around");
        int[] twelve = {1, 2, 3, 4, 5, 6, 7, 8, 9, 10, 11, 12};
        edges.due(wrapped(twelve), () -> ofGaps(twelve).checksum());
        edges.edge(53, words, "it wraps around some hundred times: all from 300 on");
        int[] most = new int[299];
        for (int i = 0; i < most.length; i++) {
            most[i] = i + 1;
        }
        GapYard yard = late(300);
        GapYard ahead = late(299);
        BigInteger factor = BigInteger.valueOf(31).pow(300);
        BigInteger own = BigInteger.valueOf(wrapped(most)).subtract(BigInteger.valueOf(7).multiply(factor));
        edges.due(BigInteger.valueOf(ahead.checksum()).multiply(factor).add(own).longValue(), yard::checksum);
    }

    private void isSound() {
        edges.edge(54, "Returns whether, for each semigroup, the Frobenius number and the genus are those that its Apery row "
                + "of the multiplicity tells", "without any, of all numbers, of the greatest conductors, and of ten");
        edges.due(true, () -> new GapYard().isSound());
        edges.due(true, () -> all().isSound());
        edges.due(true, () -> of(4, 101).isSound());
        edges.due(true, () -> late(300).isSound());
        edges.edge(54, "its dual of the dual of each ideal is the ideal again", "eight of them, and the most generators");
        edges.due(true, () -> fullOfIdeals().isSound());
        GapYard late = late(300);
        late.canonical(9);
        idealOf(late, 9, -150, 150);
        late.dual(1);
        edges.due(true, late::isSound);
        edges.edge(54, "its dual of the dual of each ideal is the ideal again", "from -300 on, and from 300 on");
        for (int end : new int[] {-150, 150}) {
            GapYard far = of(4, 101);
            idealOf(far, 0, end);
            far.combine(0, 0, '+');
            edges.due(2 * end, () -> far.least(1));
            edges.due(true, far::isSound);
        }
        edges.edge(54, "where these can be", "a dual that would be out of range");
        edges.due(true, () -> outOfRange().isSound());
        edges.refused(UNSUPPORTED, () -> outOfRange(), yard -> yard.dual(2));
        edges.edge(54, "Returns whether", "it changes nothing");
        GapYard yard = typed(fullOfIdeals(), 3, 5);
        yard.isSound();
        edges.due(describe(typed(fullOfIdeals(), 3, 5)), () -> describe(yard));
    }

    /** Of 2 and 3: ideal 2 has all from -300 on. */
    private static GapYard outOfRange() {
        GapYard yard = of(2, 3);
        idealOf(yard, 0, -150);
        idealOf(yard, 0, -150, -149);
        yard.combine(0, 1, '+');
        return yard;
    }
}
