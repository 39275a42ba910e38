import java.util.List;

/** No such semigroup, no such ideal: the last number that is taken, and the first that is refused, for each call. */
final class IndexEdges extends Yards {
    private static final String NO_SEMIGROUP = "if there is no such semigroup";
    private static final String NO_IDEAL = "if there is no such ideal";

    /** A call that takes the number of a semigroup or of an ideal. */
    private interface Ask {
        Object of(GapYard yard, int index) throws Exception;
    }

    /** What is due for the last one of some: the semigroup of 3 and 5, or the ideal with the greatest least number. */
    private record Asked(int promise, Object due, Object dueIfFull, Ask ask) {
    }

    private final Edges edges;

    IndexEdges(Edges edges) {
        this.edges = edges;
    }

    void run() {
        for (Asked asked : askedOfSemigroups()) {
            semigroupIsLookedAt(asked);
        }
        semigroupIsLookedAtFirst();
        for (Asked asked : askedOfIdeals()) {
            idealIsLookedAt(asked);
        }
        idealIsLookedAtFirst();
    }

    private static Asked asked(int promise, Object due, Ask ask) {
        return new Asked(promise, due, due, ask);
    }

    /** A call that adds a semigroup answers its number, and throws if there is no room. */
    private static Asked adding(int promise, Ask ask) {
        return new Asked(promise, null, "throws java.lang.IllegalStateException", ask);
    }

    private static List<Asked> askedOfSemigroups() {
        return List.of(
                asked(7, true, (yard, s) -> yard.has(s, 8)),
                asked(8, 7, (yard, s) -> yard.frobenius(s)),
                asked(9, 4, (yard, s) -> yard.genus(s)),
                asked(10, 7, (yard, s) -> yard.gap(s, 3)),
                asked(11, 2, (yard, s) -> yard.generators(s)),
                asked(12, 5, (yard, s) -> yard.generator(s, 1)),
                asked(13, 10, (yard, s) -> yard.apery(s, 3, 1)),
                asked(14, 1, (yard, s) -> yard.typeOf(s)),
                asked(15, 7, (yard, s) -> yard.pseudo(s, 0)),
                asked(16, false, (yard, s) -> yard.isKind(s, 'm')),
                asked(16, true, (yard, s) -> yard.isKind(s, 'c')),
                asked(17, 0, (yard, s) -> yard.wilf(s)),
                adding(18, (yard, s) -> yard.closure(s, 'r')),
                adding(18, (yard, s) -> yard.closure(s, 'b')),
                adding(18, (yard, s) -> yard.closure(s, 'u')),
                adding(19, (yard, s) -> yard.quotient(s, 2)),
                adding(20, (yard, s) -> yard.meet(s, 0, false)),
                adding(20, (yard, s) -> yard.meet(0, s, true)),
                adding(20, (yard, s) -> yard.meet(s, s, true)),
                adding(21, (yard, s) -> yard.without(s, 1)),
                asked(22, 0, (yard, s) -> yard.children(s)),
                asked(23, 0, (yard, s) -> yard.below(s, 1)),
                asked(24, 3L, (yard, s) -> yard.ways(s, 30)),
                asked(25, 6, (yard, s) -> yard.lengthOf(s, 30, false)),
                asked(26, 3, (yard, s) -> yard.lengths(s, 30)),
                asked(27, 2, (yard, s) -> yard.deltas(s, 30)),
                asked(28, 5, (yard, s) -> yard.elasticity(s, false)),
                asked(29, 5, (yard, s) -> yard.catenary(s, 30)),
                asked(30, 2, (yard, s) -> yard.parts(s, 15)),
                asked(31, 1, (yard, s) -> yard.bettis(s)),
                asked(32, 1, (yard, s) -> yard.relations(s)),
                asked(33, 0, (yard, s) -> yard.ideal(s)),
                asked(34, 0, (yard, s) -> yard.canonical(s)),
                asked(42, 1, (yard, s) -> yard.coefficient(s, 8)),
                asked(43, 4, (yard, s) -> yard.pairs(s, 4)),
                asked(44, 5, (yard, s) -> yard.bound(s, 7)),
                asked(45, true, (yard, s) -> yard.wins(s)),
                asked(46, 2, (yard, s) -> yard.greed(s, 8)),
                asked(47, true, (yard, s) -> yard.isGreedy(s, 5)),
                asked(50, 1, (yard, s) -> yard.nim(s, 11)),
                asked(51, 0.5f, (yard, s) -> yard.share(s)));
    }

    private static GapYard someSemigroups(int count) {
        return typed(count == 0 ? new GapYard() : many(count), 150, 152);
    }

    private void semigroupIsLookedAt(Asked asked) {
        int promise = asked.promise;
        Ask ask = asked.ask;
        edges.edge(promise, NO_SEMIGROUP, "there is none at all");
        edges.refused(INDEX, () -> someSemigroups(0), yard -> ask.of(yard, 0));
        edges.edge(promise, NO_SEMIGROUP, "the only one has number 0, and 1 is the first that is refused");
        edges.due(asked.due == null ? 1 : asked.due, () -> ask.of(someSemigroups(1), 0));
        edges.refused(INDEX, () -> someSemigroups(1), yard -> ask.of(yard, 1));
        edges.edge(promise, NO_SEMIGROUP, "of nine the last has number 8, and 9 is the first that is refused");
        edges.due(asked.due == null ? 9 : asked.due, () -> ask.of(someSemigroups(9), 8));
        edges.refused(INDEX, () -> someSemigroups(9), yard -> ask.of(yard, 9));
        edges.edge(promise, NO_SEMIGROUP, "of ten the last has number 9, and 10 is the first that is refused");
        edges.due(asked.dueIfFull, () -> ask.of(someSemigroups(10), 9));
        edges.refused(INDEX, () -> someSemigroups(10), yard -> ask.of(yard, 10));
        edges.edge(promise, NO_SEMIGROUP, "numbers below 0, and the greatest one");
        for (int wrong : new int[] {-1, MIN, MAX}) {
            edges.refused(INDEX, () -> someSemigroups(1), yard -> ask.of(yard, wrong));
            edges.refused(INDEX, () -> someSemigroups(10), yard -> ask.of(yard, wrong));
        }
        edges.edge(promise, NO_SEMIGROUP, "one that has been taken away");
        edges.refused(INDEX, () -> {
            GapYard yard = someSemigroups(2);
            yard.drop();
            return yard;
        }, yard -> ask.of(yard, 1));
    }

    /** Each call whose other arguments may be wrong as well. */
    private void semigroupIsLookedAtFirst() {
        List<Asked> wrong = List.of(
                asked(10, null, (yard, s) -> yard.gap(s, -1)),
                asked(12, null, (yard, s) -> yard.generator(s, -1)),
                asked(13, null, (yard, s) -> yard.apery(s, 0, -1)),
                asked(15, null, (yard, s) -> yard.pseudo(s, -1)),
                asked(16, null, (yard, s) -> yard.isKind(s, 'z')),
                asked(18, null, (yard, s) -> yard.closure(s, 'z')),
                asked(19, null, (yard, s) -> yard.quotient(s, 0)),
                asked(21, null, (yard, s) -> yard.without(s, -1)),
                asked(23, null, (yard, s) -> yard.below(s, 7)),
                asked(24, null, (yard, s) -> yard.ways(s, 301)),
                asked(25, null, (yard, s) -> yard.lengthOf(s, -1, true)),
                asked(26, null, (yard, s) -> yard.lengths(s, 301)),
                asked(27, null, (yard, s) -> yard.deltas(s, -1)),
                asked(29, null, (yard, s) -> yard.catenary(s, 301)),
                asked(30, null, (yard, s) -> yard.parts(s, -1)),
                asked(42, null, (yard, s) -> yard.coefficient(s, -1)),
                asked(43, null, (yard, s) -> yard.pairs(s, 301)),
                asked(44, null, (yard, s) -> yard.bound(s, -1)),
                asked(46, null, (yard, s) -> yard.greed(s, -1)),
                asked(47, null, (yard, s) -> yard.isGreedy(s, 301)),
                asked(50, null, (yard, s) -> yard.nim(s, -1)));
        for (Asked asked : wrong) {
            edges.edge(asked.promise, NO_SEMIGROUP, "it is thrown first, if the other arguments are wrong as well");
            edges.refused(INDEX, () -> new GapYard(), yard -> asked.ask.of(yard, 0));
            edges.refused(INDEX, () -> full(), yard -> asked.ask.of(yard, 10));
            edges.refused(INDEX, () -> full(), yard -> asked.ask.of(yard, -1));
        }
        edges.edge(33, NO_SEMIGROUP, "it is thrown first, if the row is empty, and if there are 8");
        edges.refused(INDEX, () -> full(), yard -> yard.ideal(10));
        edges.refused(INDEX, () -> fullOfIdeals(), yard -> yard.ideal(1));
        edges.refused(INDEX, () -> typed(fullOfIdeals(), 9), yard -> yard.ideal(1));
        edges.edge(34, NO_SEMIGROUP, "it is thrown first, if there are 8");
        edges.refused(INDEX, () -> fullOfIdeals(), yard -> yard.canonical(1));
        edges.edge(20, "for either", "the first one, the second one, both of them");
        edges.refused(INDEX, () -> many(2), yard -> yard.meet(2, 1, true));
        edges.refused(INDEX, () -> many(2), yard -> yard.meet(1, 2, true));
        edges.refused(INDEX, () -> many(2), yard -> yard.meet(2, 2, false));
        edges.refused(INDEX, () -> many(2), yard -> yard.meet(-1, 1, false));
        edges.refused(INDEX, () -> many(2), yard -> yard.meet(1, -1, false));
    }

    private static List<Asked> askedOfIdeals() {
        return List.of(
                new Asked(35, null, "throws java.lang.IllegalStateException", (yard, i) -> yard.combine(i, 0, '+')),
                new Asked(35, null, "throws java.lang.IllegalStateException", (yard, i) -> yard.combine(0, i, '-')),
                new Asked(35, null, "throws java.lang.IllegalStateException", (yard, i) -> yard.combine(i, i, '&')),
                new Asked(36, null, "throws java.lang.IllegalStateException", (yard, i) -> yard.dual(i)),
                asked(38, true, (yard, i) -> yard.isIn(i, MAX)),
                asked(39, 2, (yard, i) -> yard.needs(i)),
                new Asked(40, 0, 7, (yard, i) -> yard.least(i)),
                asked(41, true, (yard, i) -> yard.areMoved(i, 0)),
                asked(41, true, (yard, i) -> yard.areMoved(0, i)));
    }

    private void idealIsLookedAt(Asked asked) {
        int promise = asked.promise;
        Ask ask = asked.ask;
        edges.edge(promise, NO_IDEAL, "there is none at all");
        edges.refused(INDEX, () -> of(3, 5), yard -> ask.of(yard, 0));
        edges.refused(INDEX, () -> new GapYard(), yard -> ask.of(yard, 0));
        edges.edge(promise, NO_IDEAL, "the only one has number 0, and 1 is the first that is refused");
        edges.due(asked.due == null ? 1 : asked.due, () -> ask.of(manyIdeals(1), 0));
        edges.refused(INDEX, () -> manyIdeals(1), yard -> ask.of(yard, 1));
        edges.edge(promise, NO_IDEAL, "of eight the last has number 7, and 8 is the first that is refused");
        edges.due(asked.dueIfFull, () -> ask.of(manyIdeals(8), 7));
        edges.refused(INDEX, () -> manyIdeals(8), yard -> ask.of(yard, 8));
        edges.edge(promise, NO_IDEAL, "numbers below 0, and the greatest one");
        for (int wrong : new int[] {-1, MIN, MAX}) {
            edges.refused(INDEX, () -> manyIdeals(1), yard -> ask.of(yard, wrong));
            edges.refused(INDEX, () -> manyIdeals(8), yard -> ask.of(yard, wrong));
        }
        edges.edge(promise, NO_IDEAL, "one that has been taken away, alone or with its semigroup");
        edges.refused(INDEX, () -> {
            GapYard yard = manyIdeals(2);
            yard.dropIdeal();
            return yard;
        }, yard -> ask.of(yard, 1));
        edges.refused(INDEX, () -> {
            GapYard yard = manyIdeals(2);
            yard.drop();
            return yard;
        }, yard -> ask.of(yard, 0));
    }

    private void idealIsLookedAtFirst() {
        edges.edge(35, "for either", "the first one, the second one, both of them");
        edges.refused(INDEX, () -> manyIdeals(2), yard -> yard.combine(2, 0, '+'));
        edges.refused(INDEX, () -> manyIdeals(2), yard -> yard.combine(0, 2, '-'));
        edges.refused(INDEX, () -> manyIdeals(2), yard -> yard.combine(2, 2, '&'));
        edges.refused(INDEX, () -> manyIdeals(2), yard -> yard.combine(-1, 0, '|'));
        edges.refused(INDEX, () -> manyIdeals(2), yard -> yard.combine(0, -1, '|'));
        edges.edge(35, NO_IDEAL, "it is thrown first, if there is no such kind, and if there are 8");
        edges.refused(INDEX, () -> manyIdeals(2), yard -> yard.combine(0, 2, 'z'));
        edges.refused(INDEX, () -> fullOfIdeals(), yard -> yard.combine(8, 0, 'z'));
        edges.refused(INDEX, () -> fullOfIdeals(), yard -> yard.combine(0, 8, '+'));
        edges.edge(36, NO_IDEAL, "it is thrown first, if there are 8");
        edges.refused(INDEX, () -> fullOfIdeals(), yard -> yard.dual(8));
        edges.edge(41, "for either", "the first one, the second one, both of them");
        edges.refused(INDEX, () -> manyIdeals(2), yard -> yard.areMoved(2, 0));
        edges.refused(INDEX, () -> manyIdeals(2), yard -> yard.areMoved(0, 2));
        edges.refused(INDEX, () -> manyIdeals(2), yard -> yard.areMoved(2, 2));
        edges.refused(INDEX, () -> manyIdeals(2), yard -> yard.areMoved(-1, 1));
        edges.refused(INDEX, () -> manyIdeals(2), yard -> yard.areMoved(1, -1));
    }
}
