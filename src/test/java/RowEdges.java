import java.util.List;

/** The row: promises 1 to 3. */
final class RowEdges extends Yards {
    private final Edges edges;

    RowEdges(Edges edges) {
        this.edges = edges;
    }

    void run() {
        newObject();
        typing();
        fullRow();
        wiping();
        takenRow();
    }

    private void newObject() {
        edges.edge(1, "Creates a yard without semigroups.", "there is no semigroup and no ideal");
        GapYard yard = new GapYard();
        edges.due(7L, yard::checksum);
        edges.due(true, yard::isSound);
        edges.due(0, () -> new GapYard().fromGaps());
        edges.refused(STATE, GapYard::new, GapYard::drop);
        edges.refused(STATE, GapYard::new, GapYard::dropIdeal);
        edges.refused(ARITHMETIC, GapYard::new, GapYard::meanGenus);
        edges.refused(INDEX, GapYard::new, one -> one.genus(0));
        edges.refused(INDEX, GapYard::new, one -> one.least(0));
        edges.edge(1, "Creates a yard without semigroups.", "its row is empty");
        edges.due(0, () -> new GapYard().wipe());
        edges.due(1, () -> new GapYard().type(5));
        edges.edge(1, "Creates a yard without semigroups.", "it shares nothing with another object");
        GapYard other = typed(fullOfIdeals(), 1, 2);
        GapYard fresh = new GapYard();
        edges.due(0, fresh::wipe);
        edges.due(7L, fresh::checksum);
        edges.refused(INDEX, GapYard::new, one -> one.least(0));
        span(fresh, 2, 3);
        edges.due(7, () -> other.frobenius(0));
        edges.due(2, other::wipe);
    }

    private void typing() {
        edges.edge(2, "Types a number.", "it returns how many there are, from 1 on");
        GapYard yard = new GapYard();
        edges.due(1, () -> yard.type(3));
        edges.due(2, () -> yard.type(3));
        edges.due(3, () -> yard.type(5));
        edges.edge(2, "if it is out of range", "0 is taken, -1 is refused");
        edges.due(1, () -> new GapYard().type(0));
        edges.refused(ARGUMENT, () -> typed(7), one -> one.type(-1));
        edges.edge(2, "if it is out of range", "300 is taken, 301 is refused");
        edges.due(1, () -> new GapYard().type(300));
        edges.refused(ARGUMENT, () -> typed(7), one -> one.type(301));
        edges.edge(2, "if it is out of range", "the least and the greatest int");
        edges.refused(ARGUMENT, GapYard::new, one -> one.type(MIN));
        edges.refused(ARGUMENT, GapYard::new, one -> one.type(MAX));
    }

    private static GapYard fullRow(int first) {
        return typed(first, 2, 3, 4, 5, 6, 7, 8, 9, 10, 11, 12);
    }

    private void fullRow() {
        edges.edge(2, "if there are 12", "the twelfth is taken, the thirteenth is refused");
        GapYard yard = typed(1, 2, 3, 4, 5, 6, 7, 8, 9, 10, 11);
        edges.due(12, () -> yard.type(12));
        edges.refused(STATE, () -> fullRow(1), one -> one.type(13));
        edges.refused(STATE, () -> fullRow(1), one -> one.type(0));
        edges.refused(STATE, () -> fullRow(1), one -> one.type(300));
        edges.edge(2, "if it is out of range", "it is thrown first, if there are 12 as well");
        for (int far : FAR) {
            edges.refused(ARGUMENT, () -> fullRow(1), one -> one.type(far));
        }
        edges.edge(2, "if there are 12", "a full row is taken and emptied, and has room again");
        GapYard taken = fullRow(1);
        edges.due(0, taken::semigroup);
        edges.due(1, () -> taken.type(1));
        GapYard wiped = fullRow(1);
        edges.due(12, wiped::wipe);
        edges.due(1, () -> wiped.type(4));
        edges.edge(2, "if there are 12", "all twelve are in the row");
        edges.due(12, () -> fullRow(300).sums(1));
        edges.edge(Edges.TERMS, "A row of at most 12 numbers, 0 to 300, is typed", "twelve of each, and not one more");
        for (int number : new int[] {0, 300}) {
            GapYard many = new GapYard();
            for (int i = 1; i <= 12; i++) {
                int count = i;
                edges.due(count, () -> many.type(number));
            }
            edges.due("throws java.lang.IllegalStateException", () -> many.type(number));
            edges.due(12, many::wipe);
        }
    }

    private void wiping() {
        edges.edge(3, "Returns how many numbers it had.", "none, one, all twelve");
        edges.due(0, () -> new GapYard().wipe());
        edges.due(1, () -> typed(0).wipe());
        edges.due(12, () -> fullRow(1).wipe());
        edges.edge(3, "Empties the row.", "the second time there is none");
        GapYard yard = fullRow(1);
        yard.wipe();
        edges.due(0, yard::wipe);
        edges.due("throws java.lang.IllegalArgumentException", yard::semigroup);
        edges.due("throws java.lang.IllegalArgumentException", () -> yard.sums(1));
        edges.edge(3, "Empties the row.", "semigroups and ideals stay");
        GapYard kept = typed(fullOfIdeals(), 4);
        kept.wipe();
        edges.due(7, () -> kept.least(7));
        edges.due(7, () -> kept.frobenius(0));
    }

    private void takenRow() {
        String words = "calls that take it leave it empty, if they do not throw";
        edges.edge(Edges.TERMS, words, "semigroup, fromGaps and ideal take it");
        for (Edges.Call call : List.<Edges.Call>of(GapYard::semigroup, yard -> yard.ideal(0))) {
            GapYard yard = typed(of(3, 5), 3, 7);
            edges.due(true, () -> call.on(yard) != null);
            edges.due(0, yard::wipe);
        }
        GapYard gaps = typed(1, 2);
        edges.due(0, gaps::fromGaps);
        edges.due(0, gaps::wipe);
        edges.edge(Edges.TERMS, words, "they leave it as it is, if they throw");
        edges.refused(ARGUMENT, () -> typed(3, 0, 5), GapYard::semigroup);
        edges.refused(ARGUMENT, () -> typed(1, 4), GapYard::fromGaps);
        edges.refused(INDEX, () -> typed(1, 4), yard -> yard.ideal(0));
        edges.edge(Edges.TERMS, words, "all other calls leave it");
        GapYard yard = typed(of(3, 5), 3, 7);
        yard.stamps(2);
        yard.sums(2);
        yard.canonical(0);
        yard.closure(0, 'r');
        yard.quotient(0, 2);
        yard.meet(0, 0, true);
        yard.without(0, 0);
        yard.dual(0);
        yard.combine(0, 0, '+');
        yard.dropIdeal();
        yard.drop();
        edges.due(2, yard::wipe);
    }
}
