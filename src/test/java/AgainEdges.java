import java.util.ArrayList;
import java.util.List;

/** What an object has answered before changes no later answer: one object asked for all, and one for each answer. */
final class AgainEdges extends Yards {
    private static final int[][] COINS = {
        {1}, {2, 3}, {4, 101}, {6, 9, 20}, {3, 4, 5}, {5, 6, 7, 8}, {4, 9}, {12, 13, 14, 15, 16, 17, 18, 19, 20, 21, 22, 23},
    };
    private static final int[][] IDEALS = {{0}, {-150, 150}, {0, 1}, {-3, 4, 8}};

    private interface Ask {
        Object of(GapYard yard, int index) throws Exception;
    }

    private final Edges edges;

    AgainEdges(Edges edges) {
        this.edges = edges;
    }

    void run() {
        for (List<Ask> asks : List.of(questions(), ways(), adding())) {
            edges.edge(Edges.TERMS, "Each number by its definition is that by the quick way.", "asked after all others, semigroup by semigroup");
            semigroups(asks, false);
            edges.edge(Edges.TERMS, "Each number by its definition is that by the quick way.", "asked after all others, the last one first");
            semigroups(asks, true);
        }
        edges.edge(Edges.TERMS, "Each number by its definition is that by the quick way.", "ideals, each after all others");
        ideals(false);
        ideals(true);
        afterRefusedRows();
        afterRefusedIdeals();
    }

    private static GapYard allOfThem() {
        GapYard yard = new GapYard();
        for (int[] coins : COINS) {
            span(yard, coins);
        }
        return typed(yard, 1, 4, 6);
    }

    private void semigroups(List<Ask> asks, boolean isBackwards) {
        GapYard yard = allOfThem();
        int all = asks.size() * COINS.length;
        for (int i = 0; i < all; i++) {
            int turn = isBackwards ? all - 1 - i : i;
            // Forwards each semigroup is asked for all; backwards each question goes to all semigroups.
            Ask ask = asks.get(isBackwards ? turn / COINS.length : turn % asks.size());
            int s = isBackwards ? turn % COINS.length : turn / asks.size();
            String due = Edges.answer(() -> ask.of(typed(of(COINS[s]), 1, 4, 6), 0));
            edges.due(due, () -> ask.of(yard, s));
        }
    }

    private static List<Ask> questions() {
        return List.of(
                (yard, s) -> yard.has(s, 43),
                (yard, s) -> yard.gap(s, 1),
                (yard, s) -> yard.generator(s, 1),
                (yard, s) -> yard.apery(s, 120, 7),
                (yard, s) -> yard.typeOf(s),
                (yard, s) -> yard.pseudo(s, 0),
                (yard, s) -> yard.isKind(s, 'a'),
                (yard, s) -> yard.isKind(s, 'r'),
                (yard, s) -> yard.isKind(s, 't'),
                (yard, s) -> yard.isKind(s, 'c'),
                (yard, s) -> yard.wilf(s),
                (yard, s) -> yard.children(s),
                (yard, s) -> yard.below(s, 1),
                (yard, s) -> yard.below(s, 3),
                (yard, s) -> yard.below(s, 2),
                (yard, s) -> yard.below(s, 0),
                (yard, s) -> yard.below(s, 6),
                (yard, s) -> yard.bound(s, 3),
                (yard, s) -> yard.wins(s),
                (yard, s) -> yard.greed(s, 60),
                (yard, s) -> yard.isGreedy(s, 9),
                (yard, s) -> yard.nim(s, 60),
                (yard, s) -> yard.nim(s, 59),
                (yard, s) -> yard.nim(s, 300),
                (yard, s) -> yard.stamps(3),
                (yard, s) -> yard.sums(3),
                (yard, s) -> yard.sums(2),
                (yard, s) -> yard.isSound());
    }

    private static List<Ask> ways() {
        List<Ask> asks = new ArrayList<>();
        for (int n : new int[] {60, 300, 101, 18, 0, 35}) {
            asks.add((yard, s) -> yard.ways(s, n));
            asks.add((yard, s) -> yard.lengthOf(s, n, true));
            asks.add((yard, s) -> yard.lengthOf(s, n, false));
            asks.add((yard, s) -> yard.lengths(s, n));
            asks.add((yard, s) -> yard.deltas(s, n));
            asks.add((yard, s) -> yard.catenary(s, n));
            asks.add((yard, s) -> yard.parts(s, n));
        }
        asks.add((yard, s) -> yard.bettis(s));
        asks.add((yard, s) -> yard.relations(s));
        return asks;
    }

    /** What is made is told, and taken away again. */
    private static List<Ask> adding() {
        return List.of(
                (yard, s) -> told(yard, yard.closure(s, 'r')),
                (yard, s) -> told(yard, yard.closure(s, 'b')),
                (yard, s) -> told(yard, yard.closure(s, 'u')),
                (yard, s) -> told(yard, yard.quotient(s, 2)),
                (yard, s) -> told(yard, yard.meet(s, s, true)),
                (yard, s) -> told(yard, yard.meet(s, s, false)),
                (yard, s) -> told(yard, yard.without(s, 0)),
                (yard, s) -> yard.isSound());
    }

    private static String told(GapYard yard, int made) {
        StringBuilder text = new StringBuilder();
        text.append(yard.frobenius(made)).append(' ').append(yard.genus(made)).append(' ').append(yard.generators(made));
        text.append(' ').append(Edges.answer(() -> yard.gap(made, 2)));
        text.append(' ').append(Edges.answer(() -> yard.generator(made, 1)));
        yard.drop();
        return text.toString();
    }

    private void ideals(boolean isBackwards) {
        List<Ask> asks = idealAsks();
        GapYard yard = allIdeals();
        int all = asks.size() * IDEALS.length;
        for (int i = 0; i < all; i++) {
            int turn = isBackwards ? all - 1 - i : i;
            Ask ask = asks.get(turn % asks.size());
            int ideal = turn / asks.size();
            edges.due(Edges.answer(() -> ask.of(allIdeals(), ideal)), () -> ask.of(yard, ideal));
        }
    }

    private static GapYard allIdeals() {
        GapYard yard = of(6, 9, 20);
        for (int[] ideal : IDEALS) {
            idealOf(yard, 0, ideal);
        }
        return yard;
    }

    private static List<Ask> idealAsks() {
        return List.of(
                (yard, i) -> yard.needs(i),
                (yard, i) -> yard.areMoved(i, 2),
                (yard, i) -> toldIdeal(yard, yard.combine(i, 1, '+')),
                (yard, i) -> toldIdeal(yard, yard.combine(2, i, '-')),
                (yard, i) -> toldIdeal(yard, yard.combine(i, 3, '&')),
                (yard, i) -> toldIdeal(yard, yard.combine(i, 2, '|')),
                (yard, i) -> toldIdeal(yard, yard.dual(i)),
                (yard, i) -> toldIdeal(yard, yard.canonical(0)),
                (yard, i) -> yard.isSound());
    }

    private static String toldIdeal(GapYard yard, int made) {
        StringBuilder text = new StringBuilder();
        text.append(yard.least(made)).append(' ').append(yard.needs(made)).append(' ');
        for (int n = yard.least(made) - 1; n < yard.least(made) + 2; n++) {
            text.append(yard.isIn(made, n) ? '+' : '-');
        }
        text.append(yard.isIn(made, 600) ? '+' : '-');
        yard.dropIdeal();
        return text.toString();
    }

    /** What has been begun for a row that is refused, at the greatest numbers, is not seen later. */
    private void afterRefusedRows() {
        edges.edge(Edges.TERMS, "A method that throws an exception changes nothing.", "nor what is made next");
        for (int[] row : new int[][] {{1, 2, 300}, {1, 2, 299, 300}, {300}}) {
            afterRefused(row, GapYard::fromGaps, ARGUMENT);
        }
        for (int[] row : new int[][] {{299, 300}, {2, 300}, {7, 102, 103}}) {
            afterRefused(row, GapYard::semigroup, UNSUPPORTED);
        }
    }

    private void afterRefused(int[] row, Edges.Call call, Class<? extends Exception> wanted) {
        for (Ask ask : adding()) {
            GapYard yard = of(3, 5);
            typed(yard, row);
            edges.due("throws " + wanted.getName(), () -> call.on(yard));
            edges.due(row.length, yard::wipe);
            edges.due(Edges.answer(() -> ask.of(of(3, 5), 0)), () -> ask.of(yard, 0));
        }
    }

    private void afterRefusedIdeals() {
        edges.edge(Edges.TERMS, "A method that throws an exception changes nothing.", "nor the ideal that is made next");
        int[] least = {300, 300, 0, -300};
        for (int i = 0; i < least.length; i++) {
            GapYard yard = of(4, 101);
            idealOf(yard, 0, 150);
            idealOf(yard, 0, -150);
            yard.combine(0, 0, '+');
            yard.combine(1, 1, '+');
            idealOf(yard, 0, -150, -149);
            yard.combine(1, 4, '+');
            edges.due("throws " + UNSUPPORTED.getName(), () -> yard.combine(2, 3, '-'));
            edges.due("throws " + UNSUPPORTED.getName(), () -> yard.combine(2, 5, '-'));
            edges.due("throws " + UNSUPPORTED.getName(), () -> yard.combine(3, 2, '-'));
            edges.due("throws " + UNSUPPORTED.getName(), () -> yard.combine(2, 2, '+'));
            edges.due("throws " + UNSUPPORTED.getName(), () -> yard.combine(3, 3, '+'));
            int kind = i;
            int made = kind < 3 ? yard.combine(2, 2, "&|-".charAt(kind)) : yard.dual(2);
            edges.due(6, () -> made);
            edges.due(least[kind], () -> yard.least(made));
            edges.due(1, () -> yard.needs(made));
            for (int n : new int[] {600, 601, MAX}) {
                edges.due(true, () -> yard.isIn(made, n));
            }
            edges.due(false, () -> yard.isIn(made, least[kind] + 299));
            edges.due(true, () -> yard.isIn(made, least[kind] + 300));
        }
    }
}
