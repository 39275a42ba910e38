import java.util.List;

/** Series, codes, games and change: promises 42 to 50. */
final class GameEdges extends Yards {
    private interface Ask {
        Object of(GapYard yard, int semigroup, int number) throws Exception;
    }

    /** What is due of 3 and 5 for 0 and for 300. */
    private record Asked(int promise, String words, Object ofNone, Object ofLast, Ask ask) {
    }

    private final Edges edges;

    GameEdges(Edges edges) {
        this.edges = edges;
    }

    void run() {
        for (Asked asked : asked()) {
            range(asked);
        }
        coefficient();
        pairs();
        bound();
        wins();
        greed();
        isGreedy();
        stamps();
        stampsOfRows();
        sums();
        nim();
    }

    private static List<Asked> asked() {
        String number = "if the number is not from 0 to 300";
        return List.of(
                new Asked(43, "the index of the element, 0 to 300, by rising numbers, from 0", 1, 297, GapYard::pairs),
                new Asked(44, "the index, 0 to 300", 1, 297, GapYard::bound),
                new Asked(46, number, 0, 60, GapYard::greed),
                new Asked(47, number, true, false, GapYard::isGreedy),
                new Asked(50, number, 0, 1, GapYard::nim));
    }

    private void range(Asked asked) {
        Ask ask = asked.ask;
        edges.edge(asked.promise, asked.words, "0 is taken, -1 is refused");
        edges.due(asked.ofNone, () -> ask.of(of(3, 5), 0, 0));
        edges.refused(ARGUMENT, () -> of(3, 5), yard -> ask.of(yard, 0, -1));
        edges.edge(asked.promise, asked.words, "300 is taken, 301 is refused");
        edges.due(asked.ofLast, () -> ask.of(of(3, 5), 0, 300));
        edges.refused(ARGUMENT, () -> of(3, 5), yard -> ask.of(yard, 0, 301));
        edges.edge(asked.promise, asked.words, "the least and the greatest number");
        edges.refused(ARGUMENT, () -> of(3, 5), yard -> ask.of(yard, 0, MIN));
        edges.refused(ARGUMENT, () -> of(3, 5), yard -> ask.of(yard, 0, MAX));
    }

    private void coefficient() {
        edges.edge(42, "the power of t, from 0", "0 is taken, with 1 for 0; -1 is refused");
        edges.due(1, () -> all().coefficient(0, 0));
        edges.due(1, () -> of(4, 101).coefficient(0, 0));
        edges.refused(ARGUMENT, () -> all(), yard -> yard.coefficient(0, -1));
        edges.edge(42, "if it is below 0", "the least number");
        edges.refused(ARGUMENT, () -> of(3, 5), yard -> yard.coefficient(0, MIN));
        edges.edge(42, "the power of t, from 0", "the greatest power, and all far above the conductor");
        for (int power : new int[] {301, 302, 599, 600, 601, 1000000, MAX - 1, MAX}) {
            edges.due(0, () -> of(4, 101).coefficient(0, power));
            edges.due(0, () -> all().coefficient(0, power));
        }
        edges.edge(42, "the sum of t to the power of each element, times 1 - t", "1 at the conductor, 0 behind it, -1 at a gap behind an element");
        edges.due(1, () -> late(300).coefficient(9, 300));
        edges.due(0, () -> late(300).coefficient(9, 301));
        edges.due(-1, () -> late(300).coefficient(9, 1));
        edges.due(0, () -> late(300).coefficient(9, 299));
        edges.due(-1, () -> of(4, 101).coefficient(0, 299));
        edges.due(1, () -> of(4, 101).coefficient(0, 300));
        edges.due(0, () -> all().coefficient(0, 1));
    }

    private void pairs() {
        String words = "Returns in how many ways an element is a sum of two elements, in their order.";
        edges.edge(43, words, "0 is 0 and 0, in one way");
        edges.due(1, () -> all().pairs(0, 0));
        edges.due(1, () -> late(300).pairs(9, 0));
        edges.edge(43, words, "a generator in two, a number and itself in one more");
        edges.due(2, () -> of(3, 5).pairs(0, 1));
        edges.due(2, () -> of(3, 5).pairs(0, 2));
        edges.due(3, () -> of(3, 5).pairs(0, 3));
        edges.due(4, () -> of(3, 5).pairs(0, 4));
        edges.edge(43, "the index of the element, 0 to 300, by rising numbers, from 0", "element 300 of all numbers, and from 300 on");
        edges.due(301, () -> all().pairs(0, 300));
        edges.due(2, () -> late(300).pairs(9, 300));
        edges.due(2, () -> late(300).pairs(9, 1));
        edges.edge(43, "if it is out of range", "it is thrown, though there are such elements");
        edges.refused(ARGUMENT, () -> all(), yard -> yard.pairs(0, 301));
        edges.refused(ARGUMENT, () -> all(), yard -> yard.pairs(0, -1));
    }

    private void bound() {
        String words = "the least number of pairs of all elements from an index on, without end";
        edges.edge(44, words, "of all numbers it rises by 1");
        edges.due(1, () -> all().bound(0, 0));
        edges.due(2, () -> all().bound(0, 1));
        edges.due(301, () -> all().bound(0, 300));
        edges.edge(44, words, "a later element may have fewer: 9 has 4, 10 has 3");
        edges.due(4, () -> of(3, 5).pairs(0, 5));
        edges.due(3, () -> of(3, 5).pairs(0, 6));
        edges.due(3, () -> of(3, 5).bound(0, 5));
        edges.due(5, () -> of(3, 5).bound(0, 7));
        edges.edge(44, words, "far behind the index, and behind the conductor: up to 599 there are 2 for each");
        edges.due(1, () -> late(300).bound(9, 0));
        edges.due(2, () -> late(300).bound(9, 1));
        edges.due(2, () -> late(300).bound(9, 300));
        // Element 1 of 4 and 101 is 4; 101 and 303 have 2 and 4 ways, 101 the fewest behind it.
        edges.due(2, () -> of(4, 101).bound(0, 1));
        edges.edge(44, "if it is out of range", "it is thrown, though there are such elements");
        edges.refused(ARGUMENT, () -> all(), yard -> yard.bound(0, 301));
        edges.refused(ARGUMENT, () -> all(), yard -> yard.bound(0, -1));
    }

    private void wins() {
        edges.edge(45, "who names 1 loses", "with 1 alone left, or 1 and one more");
        edges.due(false, () -> of(2, 3).wins(0));
        edges.due(true, () -> of(2, 5).wins(0));
        edges.due(true, () -> of(3, 4, 5).wins(0));
        edges.edge(45, "with all numbers named who moves has won", "nothing is left to name");
        edges.due(true, () -> all().wins(0));
        edges.edge(45, "which comes to the semigroup with all sums", "after 4 to 7 who names 2 leaves 3, and who names 3 leaves 2");
        edges.due(false, () -> of(4, 5, 6, 7).wins(0));
        edges.due(true, () -> of(4, 5, 6).wins(0));
        edges.edge(45, "if the genus is above 12", "12 is taken, the gaps being near or far");
        edges.due(12, () -> of(2, 25).genus(0));
        edges.due(true, () -> of(2, 25).wins(0));
        edges.due(12, () -> ofGaps(1, 2, 3, 4, 5, 6, 7, 8, 9, 10, 11, 12).genus(0));
        edges.due(true, () -> ofGaps(1, 2, 3, 4, 5, 6, 7, 8, 9, 10, 11, 12).wins(0));
        edges.due(true, () -> of(4, 9).wins(0));
        edges.due(false, () -> of(4, 14, 17, 23).wins(0));
        edges.due(false, () -> of(7, 9, 12, 15).wins(0));
        edges.edge(45, "if the genus is above 12", "13 is refused, and all above");
        edges.due(13, () -> of(2, 27).genus(0));
        edges.refused(UNSUPPORTED, () -> of(2, 27), yard -> yard.wins(0));
        edges.refused(UNSUPPORTED, () -> of(4, 101), yard -> yard.wins(0));
        edges.refused(UNSUPPORTED, () -> late(300), yard -> yard.wins(9));
    }

    private void greed() {
        edges.edge(46, "always the greatest generator that fits", "none for 0, one for each generator");
        edges.due(0, () -> of(3, 5).greed(0, 0));
        edges.due(1, () -> of(3, 5).greed(0, 3));
        edges.due(1, () -> of(3, 5).greed(0, 5));
        edges.due(1, () -> late(300).greed(9, 300));
        edges.edge(46, "always the greatest generator that fits", "generators above the number are left out");
        edges.due(25, () -> of(4, 101).greed(0, 100));
        edges.due(1, () -> of(4, 101).greed(0, 101));
        edges.due(2, () -> of(4, 101).greed(0, 105));
        edges.due(26, () -> of(4, 101).greed(0, 298));
        edges.due(300, () -> all().greed(0, 300));
        edges.edge(46, "if it ends with a rest", "below the least generator, a gap, and an element that it misses");
        edges.refused(ELEMENT, () -> of(3, 5), yard -> yard.greed(0, 2));
        edges.refused(ELEMENT, () -> of(3, 5), yard -> yard.greed(0, 7));
        edges.refused(ELEMENT, () -> of(3, 5), yard -> yard.greed(0, 9));
        edges.refused(ELEMENT, () -> late(300), yard -> yard.greed(9, 299));
        edges.edge(46, "if the number is not from 0 to 300", "it is thrown first, if it would end with a rest as well");
        edges.refused(ARGUMENT, () -> late(300), yard -> yard.greed(9, -1));
    }

    private void isGreedy() {
        edges.edge(47, "whether greed pays each element up to a number with as few coins as can be", "the number itself counts");
        edges.due(true, () -> of(3, 5).isGreedy(0, 5));
        edges.due(false, () -> of(3, 5).isGreedy(0, 6));
        edges.due(true, () -> of(4, 6, 7, 9).isGreedy(0, 7));
        edges.due(false, () -> of(4, 6, 7, 9).isGreedy(0, 8));
        edges.edge(47, "whether greed pays each element up to a number with as few coins as can be", "0 alone, no element but 0, and gaps");
        edges.due(true, () -> of(3, 5).isGreedy(0, 0));
        edges.due(true, () -> of(3, 5).isGreedy(0, 2));
        edges.due(true, () -> late(300).isGreedy(9, 299));
        edges.due(true, () -> late(300).isGreedy(9, 300));
        edges.edge(47, "one that it does not pay is not so", "also if the number is far above it");
        edges.due(false, () -> of(3, 5).isGreedy(0, 300));
        edges.edge(47, "whether greed pays each element up to a number with as few coins as can be", "1 pays all");
        edges.due(true, () -> all().isGreedy(0, 300));
    }

    private void stamps() {
        edges.edge(48, "the stamps, 1 to 20", "1 is taken, 0 is refused");
        edges.due(3, () -> typed(3, 1, 2, 5).stamps(1));
        edges.refused(ARGUMENT, () -> typed(1), yard -> yard.stamps(0));
        edges.edge(48, "the stamps, 1 to 20", "20 are taken, 21 are refused");
        edges.due(20, () -> typed(1).stamps(20));
        edges.refused(ARGUMENT, () -> typed(1), yard -> yard.stamps(21));
        edges.edge(48, "if they are out of range", "the least and the greatest number, also with an empty row");
        edges.refused(ARGUMENT, () -> typed(1), yard -> yard.stamps(-1));
        edges.refused(ARGUMENT, () -> typed(1), yard -> yard.stamps(MIN));
        edges.refused(ARGUMENT, () -> typed(1), yard -> yard.stamps(MAX));
        edges.refused(ARGUMENT, GapYard::new, yard -> yard.stamps(0));
        edges.edge(48, "the row is empty", "never typed, wiped, taken");
        edges.refused(ARGUMENT, GapYard::new, yard -> yard.stamps(1));
        edges.refused(ARGUMENT, GapYard::new, yard -> yard.stamps(20));
        edges.refused(ARGUMENT, () -> of(3, 5), yard -> yard.stamps(3));
        edges.edge(48, "Returns the number, 0 if 1 cannot.", "without 1, and 0 alone");
        edges.due(0, () -> typed(2, 3).stamps(20));
        edges.due(0, () -> typed(0).stamps(20));
        edges.due(0, () -> typed(300).stamps(1));
        edges.edge(48, "Returns the number, 0 if 1 cannot.", "1 itself, with 0 or not");
        edges.due(1, () -> typed(1).stamps(1));
        edges.due(1, () -> typed(0, 1).stamps(1));
        edges.due(2, () -> typed(1, 0).stamps(2));
    }

    private void stampsOfRows() {
        String words = "by the numbers of the row, which stays, with at most so many stamps";
        edges.edge(48, words, "the row stays");
        GapYard yard = typed(4, 1, 5);
        edges.due(15, () -> yard.stamps(3));
        edges.due(15, () -> yard.stamps(3));
        edges.due(3, yard::wipe);
        edges.edge(48, words, "19 takes just as many stamps of 1, 39 takes 20, 59 takes 21");
        edges.due(18, () -> typed(1, 20).stamps(18));
        edges.due(38, () -> typed(1, 20).stamps(19));
        edges.due(58, () -> typed(1, 20).stamps(20));
        edges.edge(48, words, "the greatest number that is typed, which is never reached");
        edges.due(20, () -> typed(1, 300).stamps(20));
        edges.edge(48, words, "a full row, the twelfth number of which counts");
        edges.due(12, () -> typed(2, 3, 4, 5, 6, 7, 8, 9, 10, 11, 12, 1).stamps(1));
        edges.due(240, () -> typed(2, 3, 4, 5, 6, 7, 8, 9, 10, 11, 12, 1).stamps(20));
        edges.edge(48, words, "6000, the greatest number that can come out: 20 of 300");
        int[] best = {1, 300, 299, 266, 31, 292, 160, 101, 204, 35, 14, 243};
        edges.due(6000, () -> typed(best).stamps(20));
        edges.due(5700, () -> typed(best).stamps(19));
        edges.edge(48, words, "one number often");
        edges.due(20, () -> typed(1, 1, 1, 1, 1, 1, 1, 1, 1, 1, 1, 1).stamps(20));
    }

    private void sums() {
        edges.edge(49, "how many numbers, 0 to 9", "0 is taken, with the sum 0; -1 is refused");
        edges.due(1, () -> typed(7).sums(0));
        edges.due(1, () -> typed(0, 300, 7).sums(0));
        edges.refused(ARGUMENT, () -> typed(7), yard -> yard.sums(-1));
        edges.edge(49, "how many numbers, 0 to 9", "9 are taken, 10 are refused");
        edges.due(10, () -> typed(0, 300).sums(9));
        edges.refused(ARGUMENT, () -> typed(0, 300), yard -> yard.sums(10));
        edges.edge(49, "if it is out of range", "the least and the greatest number, also with an empty row");
        edges.refused(ARGUMENT, () -> typed(7), yard -> yard.sums(MIN));
        edges.refused(ARGUMENT, () -> typed(7), yard -> yard.sums(MAX));
        edges.refused(ARGUMENT, GapYard::new, yard -> yard.sums(10));
        edges.edge(49, "the row is empty", "also for no numbers; wiped, and taken");
        edges.refused(ARGUMENT, GapYard::new, yard -> yard.sums(0));
        edges.refused(ARGUMENT, GapYard::new, yard -> yard.sums(9));
        edges.refused(ARGUMENT, () -> of(3, 5), yard -> yard.sums(2));
        edges.edge(49, "numbers of the row, which stays", "numbers typed twice, and 0 alone");
        edges.due(1, () -> typed(7, 7, 7).sums(9));
        edges.due(1, () -> typed(0).sums(9));
        edges.due(2, () -> typed(7, 8, 7).sums(1));
        GapYard yard = typed(1, 4, 6);
        edges.due(3, () -> yard.sums(1));
        edges.due(6, () -> yard.sums(2));
        edges.due(3, yard::wipe);
        edges.edge(49, "Returns how many unlike sums so many numbers", "at the ends of what can be typed");
        edges.due(19, () -> typed(299, 300, 298).sums(9));
        edges.due(55, () -> typed(0, 1, 300).sums(9));
        edges.due(9 * 11 + 1, () -> typed(0, 1, 2, 3, 4, 5, 6, 7, 8, 9, 10, 11).sums(9));
        edges.due(9 * 11 + 1, () -> typed(300, 299, 298, 297, 296, 295, 294, 293, 292, 291, 290, 289).sums(9));
    }

    private void nim() {
        String words = "Returns the least number that is no value of what it can become.";
        edges.edge(50, "who cannot has lost", "0 without a move");
        edges.due(0, () -> of(3, 5).nim(0, 0));
        edges.due(0, () -> of(3, 5).nim(0, 2));
        edges.due(0, () -> late(300).nim(9, 299));
        edges.edge(50, words, "1 with one move to the end");
        edges.due(1, () -> of(3, 5).nim(0, 3));
        edges.due(1, () -> late(300).nim(9, 300));
        edges.edge(50, words, "1 alone takes turns");
        edges.due(1, () -> all().nim(0, 299));
        edges.due(0, () -> all().nim(0, 300));
        edges.edge(50, words, "values above 1, and 0 with moves");
        // Of 2 and 3: 0 0 1 1 2 and again.
        edges.due(2, () -> of(2, 3).nim(0, 4));
        edges.due(0, () -> of(2, 3).nim(0, 5));
        edges.due(2, () -> of(2, 3).nim(0, 299));
        edges.due(0, () -> of(2, 3).nim(0, 300));
        edges.edge(50, words, "the values of another semigroup, asked for the same number, are not seen");
        GapYard yard = all();
        span(yard, 2, 3);
        edges.due(0, () -> yard.nim(0, 2));
        edges.due(1, () -> yard.nim(1, 2));
    }
}
