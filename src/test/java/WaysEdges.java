import java.util.List;

/** Ways: promises 24 to 32. */
final class WaysEdges extends Yards {
    private static final String RANGE = "if the number is not from 0 to 300";
    private static final String MANY = "if there are more than 400 ways";

    private interface Ask {
        Object of(GapYard yard, int semigroup, int number) throws Exception;
    }

    /** What is due of 2 and 3 for 0, for 1, and for 300. */
    private record Asked(int promise, Object ofNone, Object ofGap, Object ofLast, Ask ask) {
    }

    private final Edges edges;

    WaysEdges(Edges edges) {
        this.edges = edges;
    }

    void run() {
        for (Asked asked : asked()) {
            range(asked);
        }
        ways();
        lengths();
        deltas();
        elasticity();
        catenary();
        parts();
        manyWays();
        bettis();
        bettisOfManyWays();
    }

    private static List<Asked> asked() {
        String none = "throws java.util.NoSuchElementException";
        return List.of(
                new Asked(24, 1L, 0L, 51L, GapYard::ways),
                new Asked(25, 0, none, 150, (yard, s, n) -> yard.lengthOf(s, n, true)),
                new Asked(25, 0, none, 100, (yard, s, n) -> yard.lengthOf(s, n, false)),
                new Asked(26, 1, 0, 51, GapYard::lengths),
                new Asked(27, 0, 0, 1, GapYard::deltas),
                new Asked(29, 0, 0, 3, GapYard::catenary),
                new Asked(30, 1, 0, 1, GapYard::parts));
    }

    private void range(Asked asked) {
        Ask ask = asked.ask;
        edges.edge(asked.promise, RANGE, "0 is taken, -1 is refused");
        edges.due(asked.ofNone, () -> ask.of(of(2, 3), 0, 0));
        edges.refused(ARGUMENT, () -> of(2, 3), yard -> ask.of(yard, 0, -1));
        edges.edge(asked.promise, RANGE, "300 is taken, 301 is refused");
        edges.due(asked.ofLast, () -> ask.of(of(2, 3), 0, 300));
        edges.refused(ARGUMENT, () -> of(2, 3), yard -> ask.of(yard, 0, 301));
        edges.edge(asked.promise, RANGE, "the least and the greatest number");
        edges.refused(ARGUMENT, () -> of(2, 3), yard -> ask.of(yard, 0, MIN));
        edges.refused(ARGUMENT, () -> of(2, 3), yard -> ask.of(yard, 0, MAX));
        edges.edge(asked.promise, "the number", "a gap, and 0 and a gap of others");
        edges.due(asked.ofGap, () -> ask.of(of(2, 3), 0, 1));
        edges.due(asked.ofGap, () -> ask.of(late(300), 9, 299));
        edges.due(asked.ofNone, () -> ask.of(late(300), 9, 0));
        edges.due(asked.ofNone, () -> ask.of(all(), 0, 0));
    }

    private void ways() {
        edges.edge(24, "Returns in how many ways a number can be paid.", "one for 0, without coins; one by one coin");
        edges.due(1L, () -> all().ways(0, 0));
        edges.due(1L, () -> all().ways(0, 300));
        edges.due(1L, () -> all().ways(0, 299));
        edges.due(1L, () -> late(300).ways(9, 300));
        edges.edge(24, "Returns in how many ways a number can be paid.", "the least number with two, and 1 less");
        edges.due(1L, () -> of(4, 101).ways(0, 300));
        edges.due(2L, () -> of(6, 9, 20).ways(0, 18));
        edges.due(1L, () -> of(6, 9, 20).ways(0, 15));
        edges.edge(24, "Returns in how many ways a number can be paid.", "far more than 400");
        edges.due(1668713L, () -> of(12, 13, 14, 15, 16, 17, 18, 19, 20, 21, 22, 23).ways(0, 300));
        edges.edge(Edges.TERMS, "A way to pay a number says how often each generator is taken;", "in no order, and by generators alone");
        edges.due(1L, () -> of(3, 5).ways(0, 8));
        edges.due(1L, () -> of(3, 5, 8).ways(0, 8));
    }

    private void lengths() {
        edges.edge(25, "if it cannot be paid", "the first and the last gap, and all at the ends beside them");
        edges.refused(ELEMENT, () -> of(4, 101), yard -> yard.lengthOf(0, 299, true));
        edges.refused(ELEMENT, () -> of(4, 101), yard -> yard.lengthOf(0, 1, false));
        edges.due(75, () -> of(4, 101).lengthOf(0, 300, true));
        edges.due(75, () -> of(4, 101).lengthOf(0, 300, false));
        edges.due(26, () -> of(4, 101).lengthOf(0, 298, true));
        edges.edge(25, RANGE, "it is thrown first, if the number cannot be paid as well");
        edges.refused(ARGUMENT, () -> of(4, 101), yard -> yard.lengthOf(0, -1, true));
        edges.refused(ARGUMENT, () -> all(), yard -> yard.lengthOf(0, -1, false));
        edges.edge(25, "Returns a length of ways.", "of one way, and of several");
        edges.due(26, () -> of(4, 101).lengthOf(0, 201, true));
        edges.due(12, () -> of(6, 9, 20).lengthOf(0, 72, true));
        edges.edge(25, "whether the longest one is meant, and not the shortest", "they are one, or far apart");
        edges.due(2, () -> of(3, 5).lengthOf(0, 8, true));
        edges.due(2, () -> of(3, 5).lengthOf(0, 8, false));
        edges.due(300, () -> all().lengthOf(0, 300, true));
        edges.due(300, () -> all().lengthOf(0, 300, false));
        edges.due(1, () -> late(300).lengthOf(9, 300, true));
        edges.due(10, () -> of(6, 9, 20).lengthOf(0, 60, true));
        edges.due(3, () -> of(6, 9, 20).lengthOf(0, 60, false));
        edges.edge(Edges.TERMS, "its length is how many coins that are.", "none for 0");
        edges.due(0, () -> of(6, 9, 20).lengthOf(0, 0, true));
        edges.due(0, () -> of(6, 9, 20).lengthOf(0, 0, false));
        edges.edge(26, "Returns how many unlike lengths the ways of a number have.", "fewer than ways: 3, 4 and 5 pay 8 by 3 and 5, and by 4 and 4");
        edges.due(2L, () -> of(3, 4, 5).ways(0, 8));
        edges.due(1, () -> of(3, 4, 5).lengths(0, 8));
        edges.edge(26, "Returns how many unlike lengths the ways of a number have.", "300 is the greatest length, and the only one");
        edges.due(1, () -> all().lengths(0, 300));
        edges.edge(26, "Returns how many unlike lengths the ways of a number have.", "at the edges of words of 64 lengths");
        // 2 and 3 pay n by n / 3 up to n / 2 coins.
        edges.due(64 - 43 + 1, () -> of(2, 3).lengths(0, 128));
        edges.due(63 - 42 + 1, () -> of(2, 3).lengths(0, 126));
        edges.due(128 - 86 + 1, () -> of(2, 3).lengths(0, 256));
    }

    private void deltas() {
        String sum = "the sum of 2 to the power of each unlike delta less 1, those above 31 aside";
        edges.edge(27, "Returns the deltas of a number.", "none of one length, or without ways");
        edges.due(0, () -> of(3, 5).deltas(0, 8));
        edges.due(0, () -> of(3, 5).deltas(0, 7));
        edges.due(0, () -> of(3, 4, 5).deltas(0, 8));
        edges.edge(27, sum, "1 is the least one");
        edges.due(1, () -> of(2, 3).deltas(0, 6));
        edges.edge(27, sum, "31 counts, 32 and 33 do not");
        edges.due(1 << 30, () -> of(3, 34).deltas(0, 102));
        edges.due(1 << 30, () -> of(2, 33).deltas(0, 66));
        edges.due(2, () -> of(3, 35).lengths(0, 105));
        edges.due(0, () -> of(3, 35).deltas(0, 105));
        edges.due(0, () -> of(2, 35).deltas(0, 70));
        edges.edge(27, sum, "30 counts");
        edges.due(1 << 29, () -> of(7, 37).deltas(0, 259));
        edges.edge(27, sum, "one that comes twice counts once");
        edges.due(3, () -> of(3, 5).lengths(0, 30));
        edges.due(2, () -> of(3, 5).deltas(0, 30));
        edges.edge(27, sum, "several unlike ones; one above 31 is left out alone");
        edges.due(1 | 1 << 3, () -> of(6, 9, 20).deltas(0, 60));
        // 66 is 33 of 2, or 2 of 33; 132 is 66, 35 or 4; with 35 and 37 there are deltas above 31.
        edges.due(1, () -> of(2, 299).lengths(0, 298));
        edges.due(1 | 1 << 30, () -> of(5, 6, 36).deltas(0, 180) | of(2, 33).deltas(0, 132));
        edges.edge(Edges.TERMS, "Deltas are the differences of lengths that follow each other, of all ways.", "not of all pairs of lengths");
        edges.due(2, () -> of(3, 5).deltas(0, 300));
    }

    private void elasticity() {
        edges.edge(28, "in lowest terms", "of one generator 1 and 1");
        edges.due(1, () -> all().elasticity(0, true));
        edges.due(1, () -> all().elasticity(0, false));
        edges.edge(28, "in lowest terms", "without a common divisor, and with one");
        edges.due(2, () -> of(2, 299).elasticity(0, true));
        edges.due(299, () -> of(2, 299).elasticity(0, false));
        edges.due(3, () -> of(6, 9, 20).elasticity(0, true));
        edges.due(10, () -> of(6, 9, 20).elasticity(0, false));
        edges.edge(28, "the greatest generator divided by the least one", "the greatest that can be, 599 by 300");
        edges.due(300, () -> late(300).elasticity(9, true));
        edges.due(599, () -> late(300).elasticity(9, false));
        edges.edge(28, "the greatest generator divided by the least one", "the least one divides it");
        edges.due(4, () -> of(4, 6, 9).elasticity(0, true));
        edges.due(1, () -> of(3, 4, 5).elasticity(0, true) - of(3, 4, 5).elasticity(0, false) + 3);
    }

    private void catenary() {
        edges.edge(Edges.TERMS, "0 with one way or none.", "none, one, and two ways");
        edges.due(0, () -> of(6, 9, 20).catenary(0, 43));
        edges.due(0, () -> of(6, 9, 20).catenary(0, 15));
        edges.due(3, () -> of(6, 9, 20).catenary(0, 18));
        edges.edge(Edges.TERMS, "The distance of two ways is the greater one of how many coins each has that the other one has not.",
                "ten of 6 and three of 20: 7 for a row by 6 and 9 and 20, as 60 is six of 9 and one of 6");
        edges.due(7, () -> of(6, 9, 20).catenary(0, 60));
        edges.edge(Edges.TERMS, "The distance of two ways", "coins in common are left out: 36 is six of 6, four of 9, and three of 6 and two of 9");
        edges.due(3, () -> of(6, 9, 20).catenary(0, 36));
        edges.edge(Edges.TERMS, "The catenary degree of a number is the least d such that from each way to each other one there is a row of ways",
                "not the distance of the ends");
        edges.due(5, () -> of(3, 5).catenary(0, 30));
        edges.due(5, () -> of(3, 5).catenary(0, 300));
        edges.due(3, () -> of(2, 3).catenary(0, 300));
        edges.edge(Edges.TERMS, "The distance of two ways is the greater one of how many coins each has that the other one has not.",
                "the one that has more may be either of the two");
        edges.due(3, () -> of(3, 7, 8).catenary(0, 14));
        edges.due(3, () -> of(3, 4, 5).catenary(0, 10));
        edges.due(2, () -> of(3, 4, 5).catenary(0, 8));
        edges.due(2, () -> of(3, 4, 5).catenary(0, 11));
        edges.edge(29, "Returns the catenary degree of a number.", "the greatest: 145 is 29 of 5, or 5 of 29; 298 is 149 of 2");
        edges.due(29, () -> of(5, 29).catenary(0, 145));
        edges.due(0, () -> of(2, 299).catenary(0, 298));
        edges.due(101, () -> of(2, 101).catenary(0, 202));
    }

    private void parts() {
        edges.edge(30, "the one way to pay 0, without coins, is one part", "of each semigroup");
        edges.due(1, () -> all().parts(0, 0));
        edges.due(1, () -> of(6, 9, 20).parts(0, 0));
        edges.due(1, () -> late(300).parts(9, 0));
        edges.edge(30, "Returns into how many parts the ways of a number fall", "no way, one way, two in one part, two parts, three");
        edges.due(0, () -> of(6, 9, 20).parts(0, 43));
        edges.due(1, () -> of(6, 9, 20).parts(0, 6));
        edges.due(1, () -> of(6, 9, 20).parts(0, 24));
        edges.due(2, () -> of(6, 9, 20).parts(0, 18));
        edges.due(3, () -> of(6, 10, 15).parts(0, 30));
        edges.edge(Edges.TERMS, "A number is a Betti number, if its ways fall into two parts or more, ways being in one part "
                + "if they have a generator in common, or are so by others between;", "by others between");
        // 36 is six of 6, four of 9, and three of 6 and two of 9, which joins them.
        edges.due(3L, () -> of(6, 9, 20).ways(0, 36));
        edges.due(1, () -> of(6, 9, 20).parts(0, 36));
        edges.due(2, () -> of(6, 9, 20).parts(0, 60));
        edges.edge(30, "Returns into how many parts the ways of a number fall", "300 itself in two parts");
        edges.due(2, () -> of(12, 25).parts(0, 300));
    }

    private void manyWays() {
        edges.edge(Edges.TERMS, "Ways are looked at if there are at most 400 for the number.", "400 are taken, 401 are refused");
        edges.due(400L, () -> of(3, 4, 5).ways(0, 213));
        edges.due(401L, () -> oneWayMore().ways(1, 234));
        edges.edge(29, MANY, "400 are taken");
        edges.due(3, () -> of(3, 4, 5).catenary(0, 213));
        edges.due(3, () -> fourHundredWays().catenary(1, 300));
        edges.edge(29, MANY, "all 400 count, also the last ones");
        edges.due(400L, () -> of(7, 9, 12, 17, 20).ways(0, 191));
        edges.due(3, () -> of(7, 9, 12, 17, 20).catenary(0, 191));
        edges.due(400L, () -> of(27, 15, 10, 17, 24, 14, 35, 36).ways(0, 288));
        edges.due(5, () -> of(27, 15, 10, 17, 24, 14, 35, 36).catenary(0, 288));
        edges.edge(29, MANY, "401 are refused, and far more");
        edges.refused(UNSUPPORTED, () -> oneWayMore(), yard -> yard.catenary(1, 234));
        edges.refused(UNSUPPORTED, () -> of(3, 4, 5), yard -> yard.catenary(0, 214));
        edges.refused(UNSUPPORTED, () -> of(3, 4, 5), yard -> yard.catenary(0, 300));
        edges.refused(UNSUPPORTED, () -> of(12, 13, 14, 15, 16, 17, 18, 19, 20, 21, 22, 23), yard -> yard.catenary(0, 300));
        edges.edge(30, MANY, "400 are taken");
        edges.due(1, () -> of(3, 4, 5).parts(0, 213));
        // 149 and 151 are a part of their own.
        edges.due(2, () -> fourHundredWays().parts(1, 300));
        edges.edge(30, MANY, "401 are refused, and far more");
        edges.refused(UNSUPPORTED, () -> oneWayMore(), yard -> yard.parts(1, 234));
        edges.refused(UNSUPPORTED, () -> of(3, 4, 5), yard -> yard.parts(0, 214));
        edges.refused(UNSUPPORTED, () -> of(12, 13, 14, 15, 16, 17, 18, 19, 20, 21, 22, 23), yard -> yard.parts(0, 300));
        edges.edge(29, RANGE, "it is thrown first, though 301 has more than 400 ways");
        edges.refused(ARGUMENT, () -> of(3, 4, 5), yard -> yard.catenary(0, 301));
        edges.edge(30, RANGE, "it is thrown first, though 301 has more than 400 ways");
        edges.refused(ARGUMENT, () -> of(3, 4, 5), yard -> yard.parts(0, 301));
        edges.edge(24, "Returns in how many ways a number can be paid.", "counting is not bound to 400, nor are lengths");
        edges.due(781L, () -> of(3, 4, 5).ways(0, 300));
        edges.due(41, () -> of(3, 4, 5).lengths(0, 300));
        edges.due(1, () -> of(3, 4, 5).deltas(0, 300));
    }

    private void bettis() {
        edges.edge(31, "Returns how many Betti numbers there are, up to 300.", "none, one");
        edges.due(0, () -> all().bettis(0));
        edges.due(1, () -> of(2, 3).bettis(0));
        edges.edge(31, "Returns how many Betti numbers there are, up to 300.", "300 counts, 301 does not");
        edges.due(1, () -> of(12, 25).bettis(0));
        edges.due(0, () -> of(7, 43).bettis(0));
        edges.due(0, () -> of(2, 299).bettis(0));
        edges.due(0, () -> late(300).bettis(9));
        edges.edge(31, "Returns how many Betti numbers there are, up to 300.", "one in three parts counts once");
        edges.due(1, () -> of(6, 10, 15).bettis(0));
        edges.edge(32, "Returns how many relations there are, Betti numbers up to 300 being looked at.", "none, one");
        edges.due(0, () -> all().relations(0));
        edges.due(1, () -> of(2, 3).relations(0));
        edges.edge(32, "Returns how many relations there are, Betti numbers up to 300 being looked at.", "300 is looked at, 301 is not");
        edges.due(1, () -> of(12, 25).relations(0));
        edges.due(0, () -> of(7, 43).relations(0));
        edges.due(0, () -> of(2, 299).relations(0));
        edges.due(0, () -> late(300).relations(9));
        edges.edge(Edges.TERMS, "the relations of a semigroup are the sum of how many parts there are less 1, over all Betti numbers.",
                "one number in three parts, and five numbers in two");
        edges.due(2, () -> of(6, 10, 15).relations(0));
        edges.due(5, () -> of(5, 6, 7, 8).relations(0));
        edges.due(3, () -> of(3, 4, 5).relations(0));
    }

    private void bettisOfManyWays() {
        String looked = "if there are more than 400 ways for a number that is looked at";
        String sums = "one that is the sum of a generator and a number of the Apery row of the least one";
        edges.edge(31, looked + ": " + sums, "400 are taken, of 300, the last one that is looked at");
        edges.due(400L, () -> fourHundredWays().ways(1, 300));
        edges.due(true, () -> fourHundredWays().bettis(1) > 0);
        edges.edge(31, looked + ": " + sums, "401 are refused");
        edges.refused(UNSUPPORTED, () -> oneWayMore(), yard -> yard.bettis(1));
        edges.refused(UNSUPPORTED, () -> fromSeventyOn(), yard -> yard.bettis(1));
        edges.edge(31, looked + ": " + sums, "401 of 300, the last one, are refused, where no other one has as many");
        edges.due(401L, () -> oneWayMoreAtLast().ways(1, 300));
        edges.refused(UNSUPPORTED, () -> oneWayMoreAtLast(), yard -> yard.bettis(1));
        edges.edge(31, sums, "numbers that are no such sum may have more");
        edges.due(3, () -> of(3, 4, 5).bettis(0));
        edges.due(1668713L, () -> twelve().ways(0, 300));
        // From 26 to 46 each one is two generators in another way, too.
        edges.due(21, () -> twelve().bettis(0));
        edges.edge(32, looked + ", as for bettis()", "400 are taken, 401 are refused");
        edges.due(true, () -> fourHundredWays().relations(1) >= fourHundredWays().bettis(1));
        edges.refused(UNSUPPORTED, () -> oneWayMore(), yard -> yard.relations(1));
        edges.refused(UNSUPPORTED, () -> fromSeventyOn(), yard -> yard.relations(1));
        edges.refused(UNSUPPORTED, () -> oneWayMoreAtLast(), yard -> yard.relations(1));
        edges.edge(32, looked + ", as for bettis()", "numbers that are no such sum may have more");
        edges.due(3, () -> of(3, 4, 5).relations(0));
        // All from 12 to 23: as many as there are pairs without 12, which is the least one of any relations.
        edges.due(66, () -> twelve().relations(0));
    }

    private static GapYard twelve() {
        return of(12, 13, 14, 15, 16, 17, 18, 19, 20, 21, 22, 23);
    }
}
