import java.util.Arrays;
import java.util.NoSuchElementException;

/** A yard of numerical semigroups, their ideals, and a row of typed numbers. */
public final class GapYard {
    /** The greatest number that is typed, and the greatest conductor. */
    private static final int TOP = 300;
    /** Each generator is below the conductor and the multiplicity together. */
    private static final int REACH = 2 * TOP;
    private static final int ROW_ROOM = 12;
    private static final int MONOID_ROOM = 10;
    private static final int IDEAL_ROOM = 8;
    private static final int IDEAL_SHIFT = 150;
    private static final int MOST_WAYS = 400;

    private final int[] row = new int[ROW_ROOM];
    private int typed;

    private final Monoid[] monoids = new Monoid[MONOID_ROOM];
    private int monoidCount;
    private final Monoid draft = new Monoid();
    private final Forge forge = new Forge();
    private final Shapes shapes = new Shapes();
    private final Tree tree = new Tree();

    private final Ideal[] ideals = new Ideal[IDEAL_ROOM];
    private int idealCount;
    private final Ideal idealDraft = new Ideal();
    private final Ideal spareIdeal = new Ideal();
    private final Mill mill = new Mill();

    private final Purse purse = new Purse();
    private final Graph graph = new Graph();
    private final Game game = new Game();
    private final Change change = new Change();

    public GapYard() {
        for (int i = 0; i < monoids.length; i++) {
            monoids[i] = new Monoid();
        }
        for (int i = 0; i < ideals.length; i++) {
            ideals[i] = new Ideal();
        }
    }

    // ---- the row

    public int type(int number) throws IllegalArgumentException, IllegalStateException {
        if (number < 0 || number > TOP) {
            throw new IllegalArgumentException("the number is not from 0 to 300");
        }
        if (typed < 0 || typed >= row.length) {
            throw new IllegalStateException("the row is full");
        }
        row[typed] = number;
        typed++;
        return typed;
    }

    public int wipe() {
        int had = typed;
        typed = 0;
        return had;
    }

    private boolean rowHasZero() {
        for (int i = 0; i < typed && i < row.length; i++) {
            if (row[i] == 0) {
                return true;
            }
        }
        return false;
    }

    private void refuseEmptyRow() {
        if (typed <= 0) {
            throw new IllegalArgumentException("the row is empty");
        }
    }

    // ---- semigroups

    public int semigroup()
            throws IllegalArgumentException, UnsupportedOperationException, IllegalStateException {
        refuseEmptyRow();
        if (rowHasZero()) {
            throw new IllegalArgumentException("0 is no coin");
        }
        if (!forge.span(row, typed, draft)) {
            throw new UnsupportedOperationException("the conductor would be above 300");
        }
        refuseFullYard();
        typed = 0;
        return adopt();
    }

    public int fromGaps() throws IllegalArgumentException, IllegalStateException {
        if (rowHasZero() || !forge.leaveOut(row, typed, draft)) {
            throw new IllegalArgumentException("these are not the gaps of a semigroup");
        }
        refuseFullYard();
        typed = 0;
        return adopt();
    }

    public int drop() throws IllegalStateException {
        if (monoidCount <= 0) {
            throw new IllegalStateException("there is no semigroup");
        }
        monoidCount--;
        dropIdealsOf(monoidCount);
        return monoidCount;
    }

    public boolean has(int semigroup, int number) throws IndexOutOfBoundsException {
        return pick(semigroup).holds(number);
    }

    public int frobenius(int semigroup) throws IndexOutOfBoundsException {
        return pick(semigroup).conductor - 1;
    }

    public int genus(int semigroup) throws IndexOutOfBoundsException {
        return pick(semigroup).gapCount;
    }

    public int gap(int semigroup, int index) throws IndexOutOfBoundsException, NoSuchElementException {
        Monoid monoid = pick(semigroup);
        if (index < 0 || index >= monoid.gapCount) {
            throw new NoSuchElementException("there is no such gap");
        }
        return monoid.gapAt(index);
    }

    public int generators(int semigroup) throws IndexOutOfBoundsException {
        return pick(semigroup).coinCount;
    }

    public int generator(int semigroup, int index) throws IndexOutOfBoundsException, NoSuchElementException {
        Monoid monoid = pick(semigroup);
        refuseNoCoin(monoid, index);
        return monoid.coinAt(index);
    }

    public int apery(int semigroup, int element, int index)
            throws IndexOutOfBoundsException, IllegalArgumentException, NoSuchElementException {
        Monoid monoid = pick(semigroup);
        if (element <= 0 || element > TOP || !monoid.holds(element)) {
            throw new IllegalArgumentException("it is no element from 1 to 300");
        }
        if (index < 0 || index >= element) {
            throw new NoSuchElementException("there is no such index");
        }
        return monoid.leastOfClass(element, index);
    }

    public int typeOf(int semigroup) throws IndexOutOfBoundsException {
        return pick(semigroup).countPseudos();
    }

    public int pseudo(int semigroup, int index) throws IndexOutOfBoundsException, NoSuchElementException {
        Monoid monoid = pick(semigroup);
        int found = monoid.pseudoAt(index);
        if (found < -1) {
            throw new NoSuchElementException("there is no such pseudo-Frobenius number");
        }
        return found;
    }

    public boolean isKind(int semigroup, char kind)
            throws IndexOutOfBoundsException, IllegalArgumentException, UnsupportedOperationException {
        Monoid monoid = pick(semigroup);
        switch (kind) {
            case 's':
                return 2 * monoid.gapCount == monoid.conductor;
            case 'p':
                return monoid.conductor % 2 == 1 && 2 * monoid.gapCount == monoid.conductor + 1;
            case 'a':
                return 2 * monoid.gapCount == monoid.conductor - 1 + monoid.countPseudos();
            case 'm':
                return monoid.coinCount == monoid.leastCoin();
            case 'r':
                return shapes.isArf(monoid);
            case 'o':
                return monoid.leastCoin() >= monoid.conductor;
            case 't':
                return shapes.isTelescopic(monoid);
            case 'c':
                return countRelations(monoid, true) == monoid.coinCount - 1;
            default:
                throw new IllegalArgumentException("there is no such kind");
        }
    }

    public int wilf(int semigroup) throws IndexOutOfBoundsException {
        Monoid monoid = pick(semigroup);
        return monoid.countLeft() * monoid.coinCount - monoid.conductor;
    }

    public int closure(int semigroup, char kind) throws IndexOutOfBoundsException,
            IllegalArgumentException, UnsupportedOperationException, IllegalStateException {
        Monoid monoid = pick(semigroup);
        if (kind != 'r' && kind != 'b' && kind != 'u') {
            throw new IllegalArgumentException("there is no such kind");
        }
        if (kind == 'u' && monoid.conductor == 0) {
            throw new UnsupportedOperationException("it has all numbers");
        }
        refuseFullYard();
        if (kind == 'r') {
            forge.closeArf(monoid, draft);
        } else if (kind == 'b') {
            forge.blowUp(monoid, draft);
        } else {
            forge.change(monoid, monoid.conductor - 1, true, draft);
        }
        return adopt();
    }

    public int quotient(int semigroup, int number)
            throws IndexOutOfBoundsException, IllegalArgumentException, IllegalStateException {
        Monoid monoid = pick(semigroup);
        if (number < 1 || number > TOP) {
            throw new IllegalArgumentException("the number is not from 1 to 300");
        }
        refuseFullYard();
        forge.divide(monoid, number, draft);
        return adopt();
    }

    public int meet(int semigroup, int other, boolean areSums)
            throws IndexOutOfBoundsException, IllegalStateException {
        Monoid monoid = pick(semigroup);
        Monoid second = pick(other);
        refuseFullYard();
        if (areSums) {
            forge.join(monoid, second, draft);
        } else {
            forge.cut(monoid, second, draft);
        }
        return adopt();
    }

    public int without(int semigroup, int index) throws IndexOutOfBoundsException,
            NoSuchElementException, UnsupportedOperationException, IllegalStateException {
        Monoid monoid = pick(semigroup);
        refuseNoCoin(monoid, index);
        int coin = monoid.coinAt(index);
        if (coin >= TOP) {
            throw new UnsupportedOperationException("the conductor would be above 300");
        }
        refuseFullYard();
        forge.change(monoid, coin, false, draft);
        return adopt();
    }

    public int children(int semigroup) throws IndexOutOfBoundsException {
        Monoid monoid = pick(semigroup);
        int count = 0;
        for (int i = 0; i < monoid.coinCount; i++) {
            if (monoid.coinAt(i) >= monoid.conductor) {
                count++;
            }
        }
        return count;
    }

    public int below(int semigroup, int steps)
            throws IndexOutOfBoundsException, IllegalArgumentException, UnsupportedOperationException {
        Monoid monoid = pick(semigroup);
        if (steps < 0 || steps > Tree.MOST_STEPS) {
            throw new IllegalArgumentException("the steps are not from 0 to 6");
        }
        int count = tree.countAt(monoid, steps);
        if (count < 0) {
            throw new UnsupportedOperationException("the tree grows too far");
        }
        return count;
    }

    private Monoid pick(int index) {
        Monoid found = null;
        if (index >= 0 && index < monoidCount && index < monoids.length) {
            found = monoids[index];
        }
        if (found == null) {
            throw new IndexOutOfBoundsException("there is no such semigroup");
        }
        return found;
    }

    private static void refuseNoCoin(Monoid monoid, int index) {
        if (index < 0 || index >= monoid.coinCount) {
            throw new NoSuchElementException("there is no such generator");
        }
    }

    private void refuseFullYard() {
        if (monoidCount >= monoids.length) {
            throw new IllegalStateException("there are 10 semigroups");
        }
    }

    /** Keeps a copy of the draft; the yard has been found not to be full. */
    private int adopt() {
        int index = monoidCount;
        if (index >= 0 && index < monoids.length && monoids[index] != null) {
            monoids[index].take(draft);
            monoidCount = index + 1;
        }
        return index;
    }

    // ---- ways

    public long ways(int semigroup, int number) throws IndexOutOfBoundsException, IllegalArgumentException {
        Monoid monoid = pick(semigroup);
        refuseFar(number);
        purse.countWays(monoid, number);
        return purse.waysOf(number);
    }

    public int lengthOf(int semigroup, int number, boolean isLongest)
            throws IndexOutOfBoundsException, IllegalArgumentException, NoSuchElementException {
        Monoid monoid = pick(semigroup);
        refuseFar(number);
        if (!monoid.holds(number)) {
            throw new NoSuchElementException("the number cannot be paid");
        }
        purse.findLengths(monoid, number);
        return isLongest ? purse.longestOf(number) : purse.shortestOf(number);
    }

    public int lengths(int semigroup, int number) throws IndexOutOfBoundsException, IllegalArgumentException {
        Monoid monoid = pick(semigroup);
        refuseFar(number);
        purse.findLengths(monoid, number);
        return purse.lengthsOf(number);
    }

    public int deltas(int semigroup, int number) throws IndexOutOfBoundsException, IllegalArgumentException {
        Monoid monoid = pick(semigroup);
        refuseFar(number);
        purse.findLengths(monoid, number);
        return purse.deltasOf(number);
    }

    public int elasticity(int semigroup, boolean isLower) throws IndexOutOfBoundsException {
        Monoid monoid = pick(semigroup);
        int lower = monoid.leastCoin();
        int upper = monoid.coinAt(monoid.coinCount - 1);
        int common = Math.max(1, commonDivisor(upper, lower));
        return (isLower ? lower : upper) / common;
    }

    public int catenary(int semigroup, int number)
            throws IndexOutOfBoundsException, IllegalArgumentException, UnsupportedOperationException {
        Monoid monoid = pick(semigroup);
        refuseFar(number);
        return graph.catenaryOf(monoid, number, lookAtWays(monoid, number));
    }

    public int parts(int semigroup, int number)
            throws IndexOutOfBoundsException, IllegalArgumentException, UnsupportedOperationException {
        Monoid monoid = pick(semigroup);
        refuseFar(number);
        lookAtWays(monoid, number);
        return graph.partsOf(monoid, number);
    }

    public int bettis(int semigroup) throws IndexOutOfBoundsException, UnsupportedOperationException {
        return countRelations(pick(semigroup), false);
    }

    public int relations(int semigroup) throws IndexOutOfBoundsException, UnsupportedOperationException {
        return countRelations(pick(semigroup), true);
    }

    private static void refuseFar(int number) {
        if (number < 0 || number > TOP) {
            throw new IllegalArgumentException("the number is not from 0 to 300");
        }
    }

    private int lookAtWays(Monoid monoid, int number) {
        purse.countWays(monoid, number);
        long found = purse.waysOf(number);
        if (found > MOST_WAYS) {
            throw new UnsupportedOperationException("there are more than 400 ways");
        }
        return (int) found;
    }

    /** The relations, or else only the Betti numbers, up to 300. */
    private int countRelations(Monoid monoid, boolean areRelations) {
        purse.countWays(monoid, TOP);
        int total = 0;
        for (int number = 1; number <= TOP; number++) {
            if (!monoid.mayBeBetti(number)) {
                continue;
            }
            if (purse.waysOf(number) > MOST_WAYS) {
                throw new UnsupportedOperationException("there are more than 400 ways");
            }
            int parts = graph.partsOf(monoid, number);
            if (parts > 1) {
                total += areRelations ? parts - 1 : 1;
            }
        }
        return total;
    }

    // ---- ideals

    public int ideal(int semigroup)
            throws IndexOutOfBoundsException, IllegalArgumentException, IllegalStateException {
        Monoid monoid = pick(semigroup);
        refuseEmptyRow();
        refuseManyIdeals();
        mill.span(row, typed, monoid, idealDraft);
        typed = 0;
        return adoptIdeal(semigroup);
    }

    public int canonical(int semigroup) throws IndexOutOfBoundsException, IllegalStateException {
        Monoid monoid = pick(semigroup);
        refuseManyIdeals();
        mill.reflect(monoid, idealDraft);
        return adoptIdeal(semigroup);
    }

    public int combine(int ideal, int other, char kind) throws IndexOutOfBoundsException,
            IllegalArgumentException, UnsupportedOperationException, IllegalStateException {
        Ideal first = pickIdeal(ideal);
        Ideal second = pickIdeal(other);
        if (kind != '+' && kind != '-' && kind != '&' && kind != '|') {
            throw new IllegalArgumentException("there is no such kind");
        }
        if (first.owner != second.owner) {
            throw new IllegalArgumentException("the ideals are of unlike semigroups");
        }
        if (!mix(first, second, kind)) {
            throw new UnsupportedOperationException("the least number would be out of range");
        }
        refuseManyIdeals();
        return adoptIdeal(first.owner);
    }

    public int dual(int ideal)
            throws IndexOutOfBoundsException, UnsupportedOperationException, IllegalStateException {
        Ideal source = pickIdeal(ideal);
        if (!mill.turn(source, pick(source.owner), idealDraft)) {
            throw new UnsupportedOperationException("the least number would be out of range");
        }
        refuseManyIdeals();
        return adoptIdeal(source.owner);
    }

    public int dropIdeal() throws IllegalStateException {
        if (idealCount <= 0) {
            throw new IllegalStateException("there is no ideal");
        }
        idealCount--;
        return idealCount;
    }

    public boolean isIn(int ideal, int number) throws IndexOutOfBoundsException {
        return pickIdeal(ideal).covers(number);
    }

    public int needs(int ideal) throws IndexOutOfBoundsException {
        Ideal source = pickIdeal(ideal);
        return mill.findRoots(source, pick(source.owner));
    }

    public int least(int ideal) throws IndexOutOfBoundsException {
        return pickIdeal(ideal).first;
    }

    public boolean areMoved(int ideal, int other) throws IndexOutOfBoundsException {
        Ideal one = pickIdeal(ideal);
        Ideal second = pickIdeal(other);
        return one.isAlike(second);
    }

    private Ideal pickIdeal(int index) {
        Ideal found = null;
        if (index >= 0 && index < idealCount && index < ideals.length) {
            found = ideals[index];
        }
        if (found == null) {
            throw new IndexOutOfBoundsException("there is no such ideal");
        }
        return found;
    }

    private void refuseManyIdeals() {
        if (idealCount >= ideals.length) {
            throw new IllegalStateException("there are 8 ideals");
        }
    }

    private boolean mix(Ideal first, Ideal second, char kind) {
        switch (kind) {
            case '+':
                return mill.add(first, second, pick(first.owner), idealDraft);
            case '-':
                return mill.subtract(first, second, pick(first.owner), idealDraft);
            case '&':
                return mill.cut(first, second, idealDraft);
            default:
                return mill.unite(first, second, idealDraft);
        }
    }

    /** Keeps a copy of the draft; room for it has been found. */
    private int adoptIdeal(int owner) {
        int index = idealCount;
        if (index >= 0 && index < ideals.length && ideals[index] != null) {
            ideals[index].take(idealDraft);
            ideals[index].owner = owner;
            idealCount = index + 1;
        }
        return index;
    }

    private void dropIdealsOf(int owner) {
        int kept = 0;
        for (int i = 0; i < idealCount && i < ideals.length; i++) {
            Ideal one = ideals[i];
            if (one != null && one.owner != owner) {
                moveIdeal(one, kept);
                kept++;
            }
        }
        idealCount = kept;
    }

    private void moveIdeal(Ideal one, int index) {
        if (index >= 0 && index < ideals.length && ideals[index] != null && ideals[index] != one) {
            ideals[index].take(one);
            ideals[index].owner = one.owner;
        }
    }

    // ---- series, codes, games, change

    public int coefficient(int semigroup, int power) throws IndexOutOfBoundsException, IllegalArgumentException {
        Monoid monoid = pick(semigroup);
        if (power < 0) {
            throw new IllegalArgumentException("the power is below 0");
        }
        return (monoid.holds(power) ? 1 : 0) - (monoid.holds(power - 1) ? 1 : 0);
    }

    public int pairs(int semigroup, int index) throws IndexOutOfBoundsException, IllegalArgumentException {
        Monoid monoid = pick(semigroup);
        refuseFar(index);
        return monoid.countPairs(monoid.elementAt(index));
    }

    public int bound(int semigroup, int index) throws IndexOutOfBoundsException, IllegalArgumentException {
        Monoid monoid = pick(semigroup);
        refuseFar(index);
        return monoid.leastPairsFrom(monoid.elementAt(index));
    }

    public boolean wins(int semigroup) throws IndexOutOfBoundsException, UnsupportedOperationException {
        Monoid monoid = pick(semigroup);
        if (monoid.gapCount > Game.MOST_GAPS) {
            throw new UnsupportedOperationException("the genus is above 12");
        }
        return game.isWon(monoid);
    }

    public int greed(int semigroup, int number)
            throws IndexOutOfBoundsException, IllegalArgumentException, NoSuchElementException {
        Monoid monoid = pick(semigroup);
        refuseFar(number);
        int coins = Change.payByGreed(monoid, number);
        if (coins < 0) {
            throw new NoSuchElementException("greed ends with a rest");
        }
        return coins;
    }

    public boolean isGreedy(int semigroup, int number) throws IndexOutOfBoundsException, IllegalArgumentException {
        Monoid monoid = pick(semigroup);
        refuseFar(number);
        return change.isGreedBest(monoid, number);
    }

    public int stamps(int stamps) throws IllegalArgumentException {
        if (stamps < 1 || stamps > Change.MOST_STAMPS) {
            throw new IllegalArgumentException("the stamps are not from 1 to 20");
        }
        refuseEmptyRow();
        return change.reach(row, typed, stamps);
    }

    public int sums(int times) throws IllegalArgumentException {
        if (times < 0 || times > Change.MOST_TIMES) {
            throw new IllegalArgumentException("the times are not from 0 to 9");
        }
        refuseEmptyRow();
        return change.countSums(row, typed, times);
    }

    public int nim(int semigroup, int number) throws IndexOutOfBoundsException, IllegalArgumentException {
        Monoid monoid = pick(semigroup);
        refuseFar(number);
        return change.valueOf(monoid, number);
    }

    // ---- figures

    public float share(int semigroup) throws IndexOutOfBoundsException, ArithmeticException {
        Monoid monoid = pick(semigroup);
        if (monoid.conductor <= 0) {
            throw new ArithmeticException("the conductor is 0");
        }
        return (float) monoid.countLeft() / (float) monoid.conductor;
    }

    public double meanGenus() throws ArithmeticException {
        if (monoidCount <= 0) {
            throw new ArithmeticException("there is no semigroup");
        }
        int total = 0;
        for (int i = 0; i < monoidCount; i++) {
            total += pick(i).gapCount;
        }
        return (double) total / (double) monoidCount;
    }

    public long checksum() {
        long total = 7;
        for (int i = 0; i < monoidCount; i++) {
            total = pick(i).addTo(total);
        }
        return total;
    }

    public boolean isSound() {
        for (int i = 0; i < monoidCount; i++) {
            if (!isMonoidSound(pick(i))) {
                return false;
            }
        }
        for (int i = 0; i < idealCount; i++) {
            Ideal one = pickIdeal(i);
            if (!isIdealSound(one, pick(one.owner))) {
                return false;
            }
        }
        return true;
    }

    private boolean isMonoidSound(Monoid monoid) {
        mill.reflect(monoid, idealDraft);
        return monoid.agreesWithApery() && mill.findRoots(idealDraft, monoid) == monoid.countPseudos();
    }

    private boolean isIdealSound(Ideal one, Monoid monoid) {
        if (!mill.turn(one, monoid, idealDraft) || !mill.turn(idealDraft, monoid, spareIdeal)) {
            return true;
        }
        return spareIdeal.first == one.first && spareIdeal.isAlike(one);
    }

    private static int commonDivisor(int first, int second) {
        int upper = first;
        int lower = second;
        // Euclid's rests fall so fast that 64 turns are more than an int can need.
        for (int turn = 0; turn < 64 && lower > 0; turn++) {
            int rest = upper % lower;
            upper = lower;
            lower = rest;
        }
        return upper;
    }

    /** A semigroup: which numbers up to TOP are elements; all above it are. */
    private static final class Monoid {
        private static final int NO_NUMBER = -2;

        private final boolean[] inside = new boolean[TOP + 1];
        private final int[] coins = new int[TOP + 1];
        private int coinCount;
        private int conductor;
        private int gapCount;

        private boolean holds(int number) {
            return number >= conductor || (number >= 0 && number < inside.length && inside[number]);
        }

        private int coinAt(int index) {
            return index >= 0 && index < coins.length ? coins[index] : 0;
        }

        /** At least 1, so that it may divide. */
        private int leastCoin() {
            return Math.max(1, coinAt(0));
        }

        private int countLeft() {
            return conductor - gapCount;
        }

        private void mark(int number, boolean isElement) {
            if (number >= 0 && number < inside.length) {
                inside[number] = isElement;
            }
        }

        private void markAll(boolean areElements) {
            for (int n = 0; n < inside.length; n++) {
                inside[n] = areElements;
            }
        }

        /** Finds what follows from the marks. */
        private void settle() {
            conductor = 0;
            gapCount = 0;
            for (int n = 0; n < inside.length; n++) {
                if (!inside[n]) {
                    conductor = n + 1;
                    gapCount++;
                }
            }
            findCoins();
        }

        private void findCoins() {
            coinCount = 0;
            // The least coin may be the conductor and itself: then all numbers are elements.
            int last = REACH;
            for (int n = 1; n <= last && n <= REACH; n++) {
                if (holds(n) && !isSumWithCoin(n) && coinCount < coins.length) {
                    coins[coinCount] = n;
                    coinCount++;
                    last = conductor + coins[0];
                }
            }
        }

        private boolean isSumWithCoin(int number) {
            for (int i = 0; i < coinCount && i < coins.length; i++) {
                if (holds(number - coins[i])) {
                    return true;
                }
            }
            return false;
        }

        private void take(Monoid other) {
            for (int n = 0; n < inside.length && n < other.inside.length; n++) {
                inside[n] = other.inside[n];
            }
            for (int i = 0; i < coins.length && i < other.coins.length; i++) {
                coins[i] = other.coins[i];
            }
            coinCount = other.coinCount;
            conductor = other.conductor;
            gapCount = other.gapCount;
        }

        private int gapAt(int index) {
            int before = 0;
            for (int n = 0; n < conductor; n++) {
                if (!holds(n)) {
                    if (before == index) {
                        return n;
                    }
                    before++;
                }
            }
            return NO_NUMBER;
        }

        private int elementAt(int index) {
            int before = 0;
            for (int n = 0; n < conductor; n++) {
                if (holds(n)) {
                    if (before == index) {
                        return n;
                    }
                    before++;
                }
            }
            return conductor + (index - before);
        }

        private int leastOfClass(int element, int index) {
            int number = index;
            for (int turn = 0; turn <= TOP && !holds(number); turn++) {
                number += element;
            }
            return number;
        }

        private boolean isPseudo(int number) {
            if (holds(number)) {
                return false;
            }
            for (int i = 0; i < coinCount; i++) {
                if (!holds(number + coinAt(i))) {
                    return false;
                }
            }
            return true;
        }

        private int countPseudos() {
            int count = 0;
            for (int n = -1; n < conductor; n++) {
                if (isPseudo(n)) {
                    count++;
                }
            }
            return count;
        }

        private int pseudoAt(int index) {
            int before = 0;
            for (int n = -1; n < conductor; n++) {
                if (isPseudo(n)) {
                    if (before == index) {
                        return n;
                    }
                    before++;
                }
            }
            return NO_NUMBER;
        }

        /** Whether it is the sum of a generator and a number of the Apery row of the least one. */
        private boolean mayBeBetti(int number) {
            int leastCoin = leastCoin();
            for (int i = 0; i < coinCount; i++) {
                int rest = number - coinAt(i);
                if (holds(rest) && !holds(rest - leastCoin)) {
                    return true;
                }
            }
            return false;
        }

        private int countPairs(int element) {
            int count = 0;
            for (int n = 0; n <= element; n++) {
                if (holds(n) && holds(element - n)) {
                    count++;
                }
            }
            return count;
        }

        private int leastPairsFrom(int element) {
            int best = countPairs(element);
            for (int n = element + 1; n <= element + 2 * REACH; n++) {
                // No number from n on has fewer pairs than n + 1 less twice the genus.
                if (best <= n + 1 - 2 * gapCount) {
                    return best;
                }
                if (holds(n)) {
                    best = Math.min(best, countPairs(n));
                }
            }
            return best;
        }

        private long addTo(long start) {
            long total = start;
            for (int n = 0; n < conductor; n++) {
                if (!holds(n)) {
                    total = 31 * total + n;
                }
            }
            return 31 * total + gapCount;
        }

        /** Whether the formulas of Selmer give the Frobenius number and the genus. */
        private boolean agreesWithApery() {
            int leastCoin = leastCoin();
            int greatest = 0;
            int total = 0;
            for (int i = 0; i < leastCoin; i++) {
                int member = leastOfClass(leastCoin, i);
                greatest = Math.max(greatest, member);
                total += member - i;
            }
            return greatest - leastCoin == conductor - 1 && total == leastCoin * gapCount;
        }
    }

    /** Makes semigroups: each method fills one that stands ready. */
    private static final class Forge {
        private final boolean[] paid = new boolean[REACH];
        private final int[] list = new int[TOP + 1];

        /** The sums of numbers above 0; false if some number from TOP on is none. */
        private boolean span(int[] numbers, int count, Monoid into) {
            for (int n = 0; n < paid.length; n++) {
                paid[n] = n == 0;
            }
            for (int i = 0; i < count && i < numbers.length; i++) {
                payWith(numbers[i]);
            }
            // A coin is at most TOP, so that TOP numbers in a row are enough.
            for (int n = TOP; n < paid.length; n++) {
                if (!paid[n]) {
                    return false;
                }
            }
            for (int n = 0; n <= TOP && n < paid.length; n++) {
                into.mark(n, paid[n]);
            }
            into.settle();
            return true;
        }

        private void payWith(int coin) {
            if (coin < 1) {
                return;
            }
            for (int n = coin; n < paid.length; n++) {
                if (paid[n - coin]) {
                    paid[n] = true;
                }
            }
        }

        /** All numbers but some; false if these are no semigroup. */
        private boolean leaveOut(int[] gaps, int count, Monoid into) {
            into.markAll(true);
            for (int i = 0; i < count && i < gaps.length; i++) {
                into.mark(gaps[i], false);
            }
            into.settle();
            for (int i = 0; i < count && i < gaps.length; i++) {
                if (isSumOfTwo(gaps[i], into)) {
                    return false;
                }
            }
            return true;
        }

        private static boolean isSumOfTwo(int number, Monoid monoid) {
            for (int n = 1; n <= number / 2; n++) {
                if (monoid.holds(n) && monoid.holds(number - n)) {
                    return true;
                }
            }
            return false;
        }

        /** The Arf closure has its elements at the sums of what Euclid's steps take off the coins. */
        private void closeArf(Monoid source, Monoid into) {
            into.markAll(false);
            int count = listCoins(source, 0);
            int base = 0;
            int step = source.leastCoin();
            for (int turn = 0; turn <= TOP && step > 1; turn++) {
                into.mark(base, true);
                base += step;
                step = takeOff(step, count);
            }
            for (int n = base; n <= TOP; n++) {
                into.mark(n, true);
            }
            into.settle();
        }

        /** Takes the step off what is above it, and returns the least that is left. */
        private int takeOff(int step, int count) {
            int left = step;
            for (int i = 0; i < count && i < list.length; i++) {
                if (list[i] > step) {
                    list[i] -= step;
                }
                left = Math.min(left, list[i]);
            }
            return left;
        }

        /** Lists the coins, all but the least one less some number. */
        private int listCoins(Monoid source, int less) {
            int count = 0;
            for (int i = 0; i < source.coinCount && i < list.length; i++) {
                list[i] = i == 0 ? source.coinAt(i) : source.coinAt(i) - less;
                count++;
            }
            return count;
        }

        private void blowUp(Monoid source, Monoid into) {
            int count = listCoins(source, source.leastCoin());
            span(list, count, into);
        }

        private void change(Monoid source, int number, boolean isElement, Monoid into) {
            into.take(source);
            into.mark(number, isElement);
            into.settle();
        }

        private void divide(Monoid source, int divisor, Monoid into) {
            for (int n = 0; n <= TOP; n++) {
                into.mark(n, source.holds(n * divisor));
            }
            into.settle();
        }

        private void cut(Monoid first, Monoid second, Monoid into) {
            for (int n = 0; n <= TOP; n++) {
                into.mark(n, first.holds(n) && second.holds(n));
            }
            into.settle();
        }

        private void join(Monoid first, Monoid second, Monoid into) {
            for (int n = 0; n < paid.length; n++) {
                paid[n] = first.holds(n);
            }
            for (int i = 0; i < second.coinCount; i++) {
                payWith(second.coinAt(i));
            }
            for (int n = 0; n <= TOP && n < paid.length; n++) {
                into.mark(n, paid[n]);
            }
            into.settle();
        }
    }

    /** Kinds of semigroups that take more than a line. */
    private static final class Shapes {
        private final boolean[] paid = new boolean[REACH + 1];

        /** It is enough to take one of the greater elements twice. */
        private boolean isArf(Monoid monoid) {
            for (int z = 0; z < monoid.conductor; z++) {
                if (!monoid.holds(z)) {
                    continue;
                }
                for (int x = z; x < monoid.conductor; x++) {
                    if (monoid.holds(x) && !monoid.holds(2 * x - z)) {
                        return false;
                    }
                }
            }
            return true;
        }

        private boolean isTelescopic(Monoid monoid) {
            int ahead = monoid.leastCoin();
            for (int i = 1; i < monoid.coinCount; i++) {
                int coin = monoid.coinAt(i);
                int common = Math.max(1, commonDivisor(ahead, coin));
                if (!arePaying(monoid, i, ahead, coin / common)) {
                    return false;
                }
                ahead = common;
            }
            return true;
        }

        /** Whether the coins ahead of an index, divided, pay a number. */
        private boolean arePaying(Monoid monoid, int index, int divisor, int number) {
            if (divisor < 1 || number < 0 || number >= paid.length) {
                return false;
            }
            for (int n = 0; n < paid.length; n++) {
                paid[n] = n == 0;
            }
            for (int i = 0; i < index; i++) {
                int coin = Math.max(1, monoid.coinAt(i) / divisor);
                for (int n = coin; n < paid.length && n <= number; n++) {
                    if (paid[n - coin]) {
                        paid[n] = true;
                    }
                }
            }
            return paid[number];
        }
    }

    /** Counts semigroups of the tree, level by level. */
    private static final class Tree {
        private static final int MOST_STEPS = 6;
        private static final int MOST_ON_A_LEVEL = 5000;
        /** A semigroup has at most TOP generators, and one more if a child of it is ordinary. */
        private static final int LIST_ROOM = TOP + 2;

        private final boolean[] inside = new boolean[TOP + 1];
        private final int[] levels = new int[MOST_STEPS + 1];
        private final int[] lists = new int[(MOST_STEPS + 1) * LIST_ROOM];
        private final int[] sizes = new int[MOST_STEPS + 1];

        /** How many there are some steps below, or -1 if the tree grows too far. */
        private int countAt(Monoid monoid, int steps) {
            for (int n = 0; n < inside.length; n++) {
                inside[n] = monoid.holds(n);
            }
            Arrays.fill(levels, 0);
            Arrays.fill(sizes, 0);
            levels[0] = 1;
            for (int i = 0; i < monoid.coinCount; i++) {
                if (monoid.coinAt(i) >= monoid.conductor) {
                    append(0, monoid.coinAt(i));
                }
            }
            if (steps < 0 || steps >= levels.length || !climb(this, 0, steps, monoid.leastCoin())) {
                return -1;
            }
            return levels[steps];
        }

        /** Counts what is below the semigroup whose removable generators are listed at a depth. */
        private static boolean climb(Tree tree, int depth, int steps, int leastCoin) {
            if (depth < 0 || depth >= steps || depth >= MOST_STEPS) {
                return true;
            }
            int size = tree.sizes[depth];
            tree.levels[depth + 1] += size;
            if (tree.levels[depth + 1] > MOST_ON_A_LEVEL || tree.removable(depth, size - 1) >= TOP) {
                return false;
            }
            if (depth + 1 >= steps) {
                return true;
            }
            for (int i = 0; i < size; i++) {
                int gone = tree.removable(depth, i);
                tree.mark(gone, false);
                tree.listChild(depth, i, leastCoin);
                boolean isNear = climb(tree, depth + 1, steps, gone == leastCoin ? gone + 1 : leastCoin);
                tree.mark(gone, true);
                if (!isNear) {
                    return false;
                }
            }
            return true;
        }

        /** Lists the removable generators of the child that has lost one of them. */
        private void listChild(int depth, int index, int leastCoin) {
            int gone = removable(depth, index);
            if (depth + 1 < sizes.length) {
                sizes[depth + 1] = 0;
            }
            if (gone == leastCoin) {
                for (int n = gone + 1; n <= 2 * gone + 1 && n <= 2 * TOP; n++) {
                    append(depth + 1, n);
                }
                return;
            }
            for (int i = index + 1; i < LIST_ROOM && removable(depth, i) > gone; i++) {
                append(depth + 1, removable(depth, i));
            }
            // The least coin and the lost one may have been the only sum to make this one.
            if (!isSumOfTwo(gone + leastCoin, leastCoin)) {
                append(depth + 1, gone + leastCoin);
            }
        }

        private boolean isSumOfTwo(int number, int leastCoin) {
            for (int n = leastCoin + 1; n <= number / 2; n++) {
                if (isInside(n) && isInside(number - n)) {
                    return true;
                }
            }
            return false;
        }

        private boolean isInside(int number) {
            return number >= inside.length || (number >= 0 && inside[number]);
        }

        private void mark(int number, boolean isElement) {
            if (number >= 0 && number < inside.length) {
                inside[number] = isElement;
            }
        }

        private int removable(int depth, int index) {
            if (depth < 0 || depth >= sizes.length || index < 0 || index >= sizes[depth]) {
                return -1;
            }
            int at = depth * LIST_ROOM + index;
            return at < lists.length ? lists[at] : -1;
        }

        private void append(int depth, int number) {
            if (depth < 0 || depth >= sizes.length || sizes[depth] < 0 || sizes[depth] >= LIST_ROOM) {
                return;
            }
            int at = depth * LIST_ROOM + sizes[depth];
            if (at < lists.length) {
                lists[at] = number;
                sizes[depth]++;
            }
        }
    }

    /** Counts ways to pay numbers up to TOP, and finds the lengths of these. */
    private static final class Purse {
        /** So many words hold a bit for each length from 0 to TOP. */
        private static final int WORDS = 5;
        private static final int MOST_DELTA = 31;

        private final long[] found = new long[TOP + 1];
        private final long[] bits = new long[(TOP + 1) * WORDS];

        private void countWays(Monoid monoid, int number) {
            Arrays.fill(found, 0);
            found[0] = 1;
            for (int i = 0; i < monoid.coinCount && monoid.coinAt(i) <= number; i++) {
                int coin = Math.max(1, monoid.coinAt(i));
                for (int n = coin; n <= number && n < found.length; n++) {
                    found[n] += found[n - coin];
                }
            }
        }

        private long waysOf(int number) {
            return number >= 0 && number < found.length ? found[number] : 0;
        }

        private void findLengths(Monoid monoid, int number) {
            Arrays.fill(bits, 0);
            bits[0] = 1;
            for (int n = 1; n <= number && n <= TOP; n++) {
                for (int i = 0; i < monoid.coinCount && monoid.coinAt(i) <= n; i++) {
                    addLonger(n - monoid.coinAt(i), n);
                }
            }
        }

        /** Each length of the one number is, with one coin more, one of the other. */
        private void addLonger(int from, int to) {
            long carried = 0;
            for (int w = 0; w < WORDS; w++) {
                int source = from * WORDS + w;
                int target = to * WORDS + w;
                if (source >= 0 && source < bits.length && target >= 0 && target < bits.length) {
                    bits[target] |= bits[source] << 1 | carried;
                    carried = bits[source] >>> 63;
                }
            }
        }

        private boolean isLength(int number, int length) {
            int at = number * WORDS + length / 64;
            return at >= 0 && at < bits.length && (bits[at] >>> length % 64 & 1) == 1;
        }

        private int shortestOf(int number) {
            for (int length = 0; length <= TOP; length++) {
                if (isLength(number, length)) {
                    return length;
                }
            }
            return 0;
        }

        private int longestOf(int number) {
            for (int length = TOP; length >= 0; length--) {
                if (isLength(number, length)) {
                    return length;
                }
            }
            return 0;
        }

        private int lengthsOf(int number) {
            int count = 0;
            for (int length = 0; length <= TOP; length++) {
                if (isLength(number, length)) {
                    count++;
                }
            }
            return count;
        }

        private int deltasOf(int number) {
            int deltas = 0;
            int last = -1;
            for (int length = 0; length <= TOP; length++) {
                if (!isLength(number, length)) {
                    continue;
                }
                int delta = length - last;
                if (last >= 0 && delta <= MOST_DELTA) {
                    deltas |= 1 << delta - 1;
                }
                last = length;
            }
            return deltas;
        }
    }

    /** Chains between the ways of one number, and the parts that these fall into. */
    private static final class Graph {
        /** Far more than the numbers of coins that are tried for up to 400 ways. */
        private static final int MOST_TURNS = 4000000;
        /** Above each distance of two ways. */
        private static final int FAR = 1000000;

        private final int[] usable = new int[TOP + 1];
        private int usableCount;
        private final boolean[] reached = new boolean[TOP + 1];
        private final int[] queue = new int[TOP + 1];
        private final int[] taken = new int[TOP + 1];
        /** Row by row how often each usable coin is taken. */
        private int[] table = new int[2048];
        private int rows;
        private final int[] nearest = new int[MOST_WAYS + 1];
        private final boolean[] isJoined = new boolean[MOST_WAYS + 1];

        private void findUsable(Monoid monoid, int number) {
            usableCount = 0;
            for (int i = 0; i < monoid.coinCount && monoid.coinAt(i) <= number; i++) {
                if (monoid.holds(number - monoid.coinAt(i)) && usableCount < usable.length) {
                    usable[usableCount] = monoid.coinAt(i);
                    usableCount++;
                }
            }
        }

        private int partsOf(Monoid monoid, int number) {
            if (number == 0) {
                return 1;
            }
            findUsable(monoid, number);
            for (int i = 0; i < reached.length; i++) {
                reached[i] = false;
            }
            int parts = 0;
            for (int i = 0; i < usableCount && i < reached.length; i++) {
                if (!reached[i]) {
                    parts++;
                    reachFrom(monoid, number, i);
                }
            }
            return parts;
        }

        /** Two coins are in one part if a way takes both. */
        private void reachFrom(Monoid monoid, int number, int start) {
            queue[0] = start;
            int waiting = 1;
            mark(start);
            for (int head = 0; head < waiting && head < queue.length; head++) {
                int rest = number - usableAt(queue[head]);
                for (int i = 0; i < usableCount && i < reached.length; i++) {
                    if (!reached[i] && monoid.holds(rest - usableAt(i)) && waiting < queue.length) {
                        reached[i] = true;
                        queue[waiting] = i;
                        waiting++;
                    }
                }
            }
        }

        private void mark(int index) {
            if (index >= 0 && index < reached.length) {
                reached[index] = true;
            }
        }

        private int usableAt(int index) {
            return index >= 0 && index < usable.length ? usable[index] : 0;
        }

        private int catenaryOf(Monoid monoid, int number, int ways) {
            if (ways < 2 || ways > MOST_WAYS) {
                return 0;
            }
            findUsable(monoid, number);
            makeRoom(ways * usableCount);
            listWays(number, ways);
            return widestStep();
        }

        /** Doubling keeps all that is ever made for the table small. */
        private void makeRoom(int size) {
            if (size > table.length) {
                table = new int[Math.max(size, 2 * table.length)];
            }
        }

        /** Counts up the coins but the least one, which pays the rest if it can. */
        private void listWays(int number, int ways) {
            Arrays.fill(taken, 0);
            rows = 0;
            int least = Math.max(1, usableAt(0));
            int paid = 0;
            for (int turn = 0; turn < MOST_TURNS && rows < ways; turn++) {
                if ((number - paid) % least == 0) {
                    taken[0] = (number - paid) / least;
                    keepRow();
                }
                paid = countUp(number, paid);
                if (paid < 0) {
                    return;
                }
            }
        }

        /** Goes on to the next coins that do not pay too much; -1 after the last ones. */
        private int countUp(int number, int before) {
            int paid = before;
            for (int i = 1; i < usableCount && i < taken.length; i++) {
                int coin = usableAt(i);
                if (paid + coin <= number) {
                    taken[i]++;
                    return paid + coin;
                }
                paid -= taken[i] * coin;
                taken[i] = 0;
            }
            return -1;
        }

        private void keepRow() {
            for (int i = 0; i < usableCount && i < taken.length; i++) {
                int at = rows * usableCount + i;
                if (at >= 0 && at < table.length) {
                    table[at] = taken[i];
                }
            }
            rows++;
        }

        /** The ways are joined by steps as short as can be; the longest of these decides. */
        private int widestStep() {
            for (int i = 0; i < nearest.length; i++) {
                nearest[i] = FAR;
                isJoined[i] = false;
            }
            int widest = 0;
            int current = 0;
            for (int joined = 1; joined < rows && joined < nearest.length; joined++) {
                joinWay(current);
                current = nextWay();
                if (current >= 0 && current < nearest.length) {
                    widest = Math.max(widest, nearest[current]);
                }
            }
            return widest;
        }

        private void joinWay(int way) {
            if (way >= 0 && way < isJoined.length) {
                isJoined[way] = true;
            }
            for (int i = 0; i < rows && i < nearest.length; i++) {
                if (!isJoined[i]) {
                    nearest[i] = Math.min(nearest[i], distance(way, i));
                }
            }
        }

        private int nextWay() {
            int next = -1;
            int best = FAR;
            for (int i = 0; i < rows && i < nearest.length; i++) {
                if (!isJoined[i] && nearest[i] < best) {
                    best = nearest[i];
                    next = i;
                }
            }
            return next;
        }

        private int distance(int first, int second) {
            int more = 0;
            int fewer = 0;
            for (int i = 0; i < usableCount; i++) {
                int one = first * usableCount + i;
                int other = second * usableCount + i;
                if (one >= 0 && one < table.length && other >= 0 && other < table.length) {
                    int excess = table[one] - table[other];
                    more += Math.max(excess, 0);
                    fewer += Math.max(-excess, 0);
                }
            }
            return Math.max(more, fewer);
        }
    }

    /** A relative ideal: its numbers from LOW to HIGH; all above HIGH are in it, none below LOW. */
    private static final class Ideal {
        private static final int LOW = -TOP;
        private static final int HIGH = 2 * TOP;

        private final boolean[] inside = new boolean[HIGH - LOW + 1];
        private int first;
        private int owner;

        private boolean covers(int number) {
            if (number > HIGH) {
                return true;
            }
            if (number < LOW) {
                return false;
            }
            int at = number - LOW;
            return at < inside.length && inside[at];
        }

        private void mark(int number, boolean isElement) {
            if (number >= LOW && number <= HIGH) {
                inside[number - LOW] = isElement;
            }
        }

        private void markNone() {
            for (int i = 0; i < inside.length; i++) {
                inside[i] = false;
            }
        }

        /** Finds the least number; false if it is above TOP. */
        private boolean settle() {
            for (int n = LOW; n <= TOP; n++) {
                if (covers(n)) {
                    first = n;
                    return true;
                }
            }
            return false;
        }

        private void take(Ideal other) {
            for (int i = 0; i < inside.length && i < other.inside.length; i++) {
                inside[i] = other.inside[i];
            }
            first = other.first;
        }

        /** Whether it is the other one, moved; from the conductor on both have all numbers. */
        private boolean isAlike(Ideal other) {
            for (int n = 0; n <= TOP; n++) {
                if (covers(first + n) != other.covers(other.first + n)) {
                    return false;
                }
            }
            return true;
        }
    }

    /** Makes ideals: each method fills one that stands ready, or tells that it is out of range. */
    private static final class Mill {
        private final int[] roots = new int[TOP + 1];
        private int rootCount;

        /** Finds the generators of an ideal, and returns how many there are. */
        private int findRoots(Ideal source, Monoid monoid) {
            rootCount = 0;
            int last = source.first + monoid.conductor + monoid.leastCoin();
            for (int n = source.first; n <= last; n++) {
                if (source.covers(n) && !isMoved(n, source, monoid) && rootCount < roots.length) {
                    roots[rootCount] = n;
                    rootCount++;
                }
            }
            return rootCount;
        }

        private static boolean isMoved(int number, Ideal source, Monoid monoid) {
            for (int i = 0; i < monoid.coinCount; i++) {
                if (source.covers(number - monoid.coinAt(i))) {
                    return true;
                }
            }
            return false;
        }

        private void span(int[] numbers, int count, Monoid monoid, Ideal into) {
            into.markNone();
            for (int i = 0; i < count && i < numbers.length; i++) {
                int start = numbers[i] - IDEAL_SHIFT;
                for (int n = start; n <= Ideal.HIGH; n++) {
                    if (monoid.holds(n - start)) {
                        into.mark(n, true);
                    }
                }
            }
            into.settle();
        }

        /** The canonical ideal. */
        private void reflect(Monoid monoid, Ideal into) {
            for (int n = Ideal.LOW; n <= Ideal.HIGH; n++) {
                into.mark(n, !monoid.holds(monoid.conductor - 1 - n));
            }
            into.settle();
        }

        /** The dual: i is in it if the Frobenius number less i is not in the source. */
        private boolean turn(Ideal source, Monoid monoid, Ideal into) {
            for (int n = Ideal.LOW; n <= Ideal.HIGH; n++) {
                into.mark(n, !source.covers(monoid.conductor - 1 - n));
            }
            return into.settle();
        }

        private boolean add(Ideal first, Ideal second, Monoid monoid, Ideal into) {
            int least = first.first + second.first;
            if (least < Ideal.LOW || least > TOP) {
                return false;
            }
            findRoots(first, monoid);
            into.markNone();
            for (int i = 0; i < rootCount && i < roots.length; i++) {
                int root = roots[i];
                for (int n = root + second.first; n <= Ideal.HIGH; n++) {
                    if (second.covers(n - root)) {
                        into.mark(n, true);
                    }
                }
            }
            return into.settle();
        }

        private boolean subtract(Ideal first, Ideal second, Monoid monoid, Ideal into) {
            findRoots(second, monoid);
            for (int n = first.first - second.first; n < Ideal.LOW; n++) {
                if (isDifference(n, first)) {
                    return false;
                }
            }
            for (int n = Ideal.LOW; n <= Ideal.HIGH; n++) {
                into.mark(n, isDifference(n, first));
            }
            return into.settle();
        }

        /** Whether the sums of a number and all roots are in an ideal. */
        private boolean isDifference(int number, Ideal first) {
            for (int i = 0; i < rootCount && i < roots.length; i++) {
                if (!first.covers(number + roots[i])) {
                    return false;
                }
            }
            return true;
        }

        private boolean cut(Ideal first, Ideal second, Ideal into) {
            for (int n = Ideal.LOW; n <= Ideal.HIGH; n++) {
                into.mark(n, first.covers(n) && second.covers(n));
            }
            return into.settle();
        }

        private boolean unite(Ideal first, Ideal second, Ideal into) {
            for (int n = Ideal.LOW; n <= Ideal.HIGH; n++) {
                into.mark(n, first.covers(n) || second.covers(n));
            }
            return into.settle();
        }
    }

    /** The game of naming coins, over the gaps that are left of at most MOST_GAPS. */
    private static final class Game {
        private static final int MOST_GAPS = 12;
        /** With so few gaps the greatest is below twice their number. */
        private static final int BITS = 2 * MOST_GAPS;
        private static final int WON = 1;
        private static final int LOST = 2;

        private final int[] gaps = new int[MOST_GAPS];
        private int gapCount;
        private final byte[] known = new byte[1 << MOST_GAPS];

        private boolean isWon(Monoid monoid) {
            Arrays.fill(known, (byte) 0);
            gapCount = 0;
            long elements = 0;
            for (int n = 0; n < BITS; n++) {
                if (monoid.holds(n)) {
                    elements |= 1L << n;
                } else if (gapCount < gaps.length) {
                    gaps[gapCount] = n;
                    gapCount++;
                }
            }
            return isWonFrom(this, elements, 0);
        }

        /** Each move takes a gap away, so that the depth is at most how many there were. */
        private static boolean isWonFrom(Game game, long elements, int depth) {
            int key = game.keyOf(elements);
            if (key == 0 || depth > MOST_GAPS || key < 0 || key >= game.known.length) {
                return true;
            }
            if (game.known[key] != 0) {
                return game.known[key] == WON;
            }
            boolean isWon = false;
            for (int i = 0; i < game.gapCount && i < game.gaps.length && !isWon; i++) {
                int coin = game.gaps[i];
                if ((elements >>> coin & 1) == 0) {
                    isWon = !isWonFrom(game, payWith(elements, coin), depth + 1);
                }
            }
            game.known[key] = (byte) (isWon ? WON : LOST);
            return isWon;
        }

        /** A bit for each gap that is left. */
        private int keyOf(long elements) {
            int key = 0;
            for (int i = 0; i < gapCount && i < gaps.length; i++) {
                if ((elements >>> gaps[i] & 1) == 0) {
                    key |= 1 << i;
                }
            }
            return key;
        }

        private static long payWith(long elements, int coin) {
            long all = elements;
            for (int step = coin; step > 0 && step < BITS; step *= 2) {
                all |= all << step;
            }
            return all & (1L << BITS) - 1;
        }
    }

    /** Change by greed and at best, stamps and sums, and the game of taking coins off. */
    private static final class Change {
        private static final int MOST_STAMPS = 20;
        private static final int MOST_TIMES = 9;
        private static final int NEVER = 1000000;

        private final int[] fewest = new int[MOST_STAMPS * TOP + 2];
        private final int[] values = new int[TOP + 1];
        private final int[] lastSeen = new int[TOP + 2];
        private final int[] moved = new int[ROW_ROOM];

        /** The coins, or -1 if a rest is left. */
        private static int payByGreed(Monoid monoid, int number) {
            int coins = 0;
            int rest = number;
            for (int i = monoid.coinCount - 1; i >= 0; i--) {
                int coin = Math.max(1, monoid.coinAt(i));
                coins += rest / coin;
                rest %= coin;
            }
            return rest == 0 ? coins : -1;
        }

        private boolean isGreedBest(Monoid monoid, int number) {
            fewest[0] = 0;
            for (int n = 1; n <= number && n < fewest.length; n++) {
                fewest[n] = fewestFor(n, monoid.coins, monoid.coinCount);
                if (fewest[n] < NEVER && payByGreed(monoid, n) != fewest[n]) {
                    return false;
                }
            }
            return true;
        }

        /** One coin more than for the best of the rests, which are known. */
        private int fewestFor(int number, int[] coins, int count) {
            int best = NEVER;
            for (int i = 0; i < count && i < coins.length; i++) {
                int rest = number - coins[i];
                if (coins[i] > 0 && rest >= 0 && rest < fewest.length) {
                    best = Math.min(best, fewest[rest] + 1);
                }
            }
            return best;
        }

        private int reach(int[] row, int count, int stamps) {
            fewest[0] = 0;
            for (int n = 1; n < fewest.length; n++) {
                fewest[n] = fewestFor(n, row, count);
                if (fewest[n] > stamps) {
                    return n - 1;
                }
            }
            return 0;
        }

        /** With the least number taken off each one, the times that are not needed take 0. */
        private int countSums(int[] row, int count, int times) {
            int least = TOP;
            int greatest = 0;
            for (int i = 0; i < count && i < row.length; i++) {
                least = Math.min(least, row[i]);
                greatest = Math.max(greatest, row[i]);
            }
            for (int i = 0; i < count && i < row.length && i < moved.length; i++) {
                moved[i] = row[i] - least;
            }
            fewest[0] = 0;
            int found = 1;
            for (int n = 1; n <= times * (greatest - least) && n < fewest.length; n++) {
                fewest[n] = fewestFor(n, moved, count);
                if (fewest[n] <= times) {
                    found++;
                }
            }
            return found;
        }

        private int valueOf(Monoid monoid, int number) {
            Arrays.fill(lastSeen, -1);
            for (int n = 0; n <= number && n < values.length; n++) {
                for (int i = 0; i < monoid.coinCount && monoid.coinAt(i) <= n; i++) {
                    see(n - monoid.coinAt(i), n);
                }
                values[n] = leastUnseen(n);
            }
            return number >= 0 && number < values.length ? values[number] : 0;
        }

        private void see(int rest, int number) {
            if (rest >= 0 && rest < values.length) {
                int value = values[rest];
                if (value >= 0 && value < lastSeen.length) {
                    lastSeen[value] = number;
                }
            }
        }

        private int leastUnseen(int number) {
            for (int value = 0; value < lastSeen.length; value++) {
                if (lastSeen[value] != number) {
                    return value;
                }
            }
            return 0;
        }
    }
}
