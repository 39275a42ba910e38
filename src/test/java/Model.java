import java.util.ArrayDeque;
import java.util.ArrayList;
import java.util.Arrays;
import java.util.HashMap;
import java.util.HashSet;
import java.util.List;
import java.util.Map;
import java.util.NoSuchElementException;
import java.util.Set;
import java.util.TreeSet;

/** The document once more, by its definitions and without any quick way, to compare the class with. */
final class Model {
    /** Sets of whole numbers are looked at from -WIDE to WIDE; all behind are elements, all ahead are none. */
    private static final int WIDE = 1300;

    /** A semigroup or an ideal: the numbers from -WIDE on. */
    private static final class Numbers {
        final boolean[] in = new boolean[2 * WIDE + 1];
        int owner;

        boolean at(int n) {
            return n > WIDE || (n >= -WIDE && in[n + WIDE]);
        }

        void put(int n) {
            if (n >= -WIDE && n <= WIDE) {
                in[n + WIDE] = true;
            }
        }

        int first() {
            int n = -WIDE;
            while (!at(n)) {
                n++;
            }
            return n;
        }

        int lastOut() {
            int n = WIDE;
            while (at(n)) {
                n--;
            }
            return n;
        }
    }

    private final List<Integer> row = new ArrayList<>();
    private final List<Numbers> yard = new ArrayList<>();
    private final List<Numbers> ideals = new ArrayList<>();

    // ---- the row

    int type(int number) {
        need(number >= 0 && number <= 300, "IAE");
        need(row.size() < 12, "ISE");
        row.add(number);
        return row.size();
    }

    int wipe() {
        int had = row.size();
        row.clear();
        return had;
    }

    // ---- semigroups

    int semigroup() {
        need(!row.isEmpty() && !row.contains(0), "IAE");
        int far = 100000;
        boolean[] sum = new boolean[far + 1];
        sum[0] = true;
        for (int n = 1; n <= far; n++) {
            for (int coin : row) {
                sum[n] |= n >= coin && sum[n - coin];
            }
        }
        for (int n = 300; n <= far; n++) {
            need(sum[n], "UOE");
        }
        Numbers made = new Numbers();
        for (int n = 0; n <= WIDE; n++) {
            if (sum[n]) {
                made.put(n);
            }
        }
        return keep(made, true);
    }

    int fromGaps() {
        need(!row.contains(0), "IAE");
        Numbers made = new Numbers();
        for (int n = 0; n <= WIDE; n++) {
            if (!row.contains(n)) {
                made.put(n);
            }
        }
        for (int a = 0; a <= 300; a++) {
            for (int b = 0; b <= 300; b++) {
                need(!made.at(a) || !made.at(b) || made.at(a + b), "IAE");
            }
        }
        return keep(made, true);
    }

    private int keep(Numbers made, boolean isOfRow) {
        need(yard.size() < 10, "ISE");
        if (isOfRow) {
            row.clear();
        }
        yard.add(made);
        return yard.size() - 1;
    }

    int drop() {
        need(!yard.isEmpty(), "ISE");
        yard.remove(yard.size() - 1);
        ideals.removeIf(ideal -> ideal.owner == yard.size());
        return yard.size();
    }

    boolean has(int semigroup, int number) {
        return get(semigroup).at(number);
    }

    int frobenius(int semigroup) {
        return get(semigroup).lastOut();
    }

    int genus(int semigroup) {
        return gapsOf(get(semigroup)).size();
    }

    int gap(int semigroup, int index) {
        return find(gapsOf(get(semigroup)), index);
    }

    int generators(int semigroup) {
        return coinsOf(get(semigroup)).size();
    }

    int generator(int semigroup, int index) {
        return find(coinsOf(get(semigroup)), index);
    }

    int apery(int semigroup, int element, int index) {
        Numbers s = get(semigroup);
        need(element > 0 && element <= 300 && s.at(element), "IAE");
        need(index >= 0 && index < element, "NSEE");
        for (int n = 0; n <= WIDE; n++) {
            if (s.at(n) && n % element == index) {
                return n;
            }
        }
        throw new AssertionError();
    }

    int typeOf(int semigroup) {
        return pseudosOf(get(semigroup)).size();
    }

    int pseudo(int semigroup, int index) {
        return find(pseudosOf(get(semigroup)), index);
    }

    boolean isKind(int semigroup, char kind) {
        Numbers s = get(semigroup);
        need("spamrotc".indexOf(kind) >= 0, "IAE");
        int f = s.lastOut();
        List<Integer> coins = coinsOf(s);
        switch (kind) {
            case 's':
                return isBalanced(s, false);
            case 'p':
                return Math.floorMod(f, 2) == 0 && isBalanced(s, true);
            case 'a':
                return 2 * gapsOf(s).size() == f + pseudosOf(s).size();
            case 'm':
                return coins.size() == coins.get(0);
            case 'r':
                return oneMissing(s) < 0;
            case 'o':
                for (int n = 1; n <= f; n++) {
                    if (s.at(n)) {
                        return false;
                    }
                }
                return true;
            case 't':
                return isTelescopic(coins);
            default:
                return countRelations(s, true) == coins.size() - 1;
        }
    }

    private static boolean isBalanced(Numbers s, boolean isButHalf) {
        int f = s.lastOut();
        for (int n = -WIDE / 2; n <= WIDE / 2; n++) {
            if (s.at(n) == s.at(f - n) && !(isButHalf && 2 * n == f)) {
                return false;
            }
        }
        return true;
    }

    /** A number x + y - z that is no element, or -1. */
    private static int oneMissing(Numbers s) {
        int top = s.lastOut() + 2;
        for (int z = 0; z <= top; z++) {
            for (int x = z; s.at(z) && x <= top; x++) {
                for (int y = z; s.at(x) && y <= top; y++) {
                    if (s.at(y) && !s.at(x + y - z)) {
                        return x + y - z;
                    }
                }
            }
        }
        return -1;
    }

    private static boolean isTelescopic(List<Integer> coins) {
        for (int i = 1; i < coins.size(); i++) {
            int ahead = 0;
            for (int k = 0; k < i; k++) {
                ahead = gcd(ahead, coins.get(k));
            }
            int all = gcd(ahead, coins.get(i));
            List<Integer> divided = new ArrayList<>();
            for (int k = 0; k < i; k++) {
                divided.add(coins.get(k) / ahead);
            }
            if (lengthsOf(divided, coins.get(i) / all).isEmpty()) {
                return false;
            }
        }
        return true;
    }

    private static int gcd(int a, int b) {
        return b == 0 ? a : gcd(b, a % b);
    }

    int wilf(int semigroup) {
        Numbers s = get(semigroup);
        int left = 0;
        for (int n = 0; n < s.lastOut() + 1; n++) {
            left += s.at(n) ? 1 : 0;
        }
        return left * coinsOf(s).size() - (s.lastOut() + 1);
    }

    int closure(int semigroup, char kind) {
        Numbers s = get(semigroup);
        need(kind == 'r' || kind == 'b' || kind == 'u', "IAE");
        need(kind != 'u' || s.lastOut() >= 0, "UOE");
        Numbers made = copy(s);
        if (kind == 'u') {
            made.put(s.lastOut());
        } else if (kind == 'r') {
            for (int missing = oneMissing(made); missing >= 0; missing = oneMissing(made)) {
                made.put(missing);
            }
        } else {
            blowUp(s, made);
        }
        return keep(made, false);
    }

    /** Moving the sums of n elements down to 0 changes no difference, and keeps the numbers small. */
    private static void blowUp(Numbers s, Numbers made) {
        int least = coinsOf(s).get(0);
        int wide = 700;
        boolean[] moved = new boolean[wide];
        for (int n = 0; n < wide; n++) {
            moved[n] = s.at(n + least);
        }
        boolean[] power = moved.clone();
        for (int n = 1; n <= least + 1; n++) {
            for (int z = 0; z <= 310; z++) {
                boolean isIn = true;
                for (int i = 0; i + z < wide && isIn; i++) {
                    isIn = !power[i] || power[z + i];
                }
                if (isIn) {
                    made.put(z);
                }
            }
            boolean[] next = new boolean[wide];
            for (int i = 0; i < wide; i++) {
                for (int k = 0; power[i] && k + i < wide; k++) {
                    next[i + k] |= moved[k];
                }
            }
            if (Arrays.equals(next, power)) {
                return;
            }
            power = next;
        }
    }

    private static Numbers sum(Numbers a, Numbers b) {
        Numbers made = new Numbers();
        int firstA = a.first();
        int firstB = b.first();
        for (int n = firstA + firstB; n <= WIDE; n++) {
            for (int i = firstA; i <= n - firstB; i++) {
                if (a.at(i) && b.at(n - i)) {
                    made.put(n);
                    break;
                }
            }
        }
        return made;
    }

    int quotient(int semigroup, int number) {
        Numbers s = get(semigroup);
        need(number >= 1 && number <= 300, "IAE");
        Numbers made = new Numbers();
        for (int n = 0; n <= WIDE; n++) {
            if (s.at(n * number)) {
                made.put(n);
            }
        }
        return keep(made, false);
    }

    int meet(int semigroup, int other, boolean areSums) {
        Numbers a = get(semigroup);
        Numbers b = get(other);
        if (areSums) {
            return keep(sum(a, b), false);
        }
        Numbers made = new Numbers();
        for (int n = 0; n <= WIDE; n++) {
            if (a.at(n) && b.at(n)) {
                made.put(n);
            }
        }
        return keep(made, false);
    }

    int without(int semigroup, int index) {
        Numbers s = get(semigroup);
        int coin = find(coinsOf(s), index);
        Numbers made = copy(s);
        made.in[coin + WIDE] = false;
        need(made.lastOut() + 1 <= 300, "UOE");
        return keep(made, false);
    }

    int children(int semigroup) {
        Numbers s = get(semigroup);
        int count = 0;
        for (int coin : coinsOf(s)) {
            count += coin > s.lastOut() ? 1 : 0;
        }
        return count;
    }

    int below(int semigroup, int steps) {
        Numbers s = get(semigroup);
        need(steps >= 0 && steps <= 6, "IAE");
        List<Numbers> level = List.of(s);
        for (int step = 0; step < steps; step++) {
            List<Numbers> next = new ArrayList<>();
            for (Numbers one : level) {
                for (int coin : coinsOf(one)) {
                    if (coin > one.lastOut()) {
                        need(coin + 1 <= 300, "UOE");
                        Numbers child = copy(one);
                        child.in[coin + WIDE] = false;
                        next.add(child);
                        need(next.size() <= 5000, "UOE");
                    }
                }
            }
            level = next;
        }
        return level.size();
    }

    // ---- ways

    long ways(int semigroup, int number) {
        Numbers s = get(semigroup);
        near(number);
        return countWays(coinsOf(s), 0, number, new HashMap<>());
    }

    private static long countWays(List<Integer> coins, int from, int number, Map<Integer, Long> known) {
        if (number == 0) {
            return 1;
        }
        if (from == coins.size() || coins.get(from) > number) {
            return 0;
        }
        int key = from * 1000 + number;
        Long old = known.get(key);
        if (old != null) {
            return old;
        }
        long count = 0;
        for (int i = from; i < coins.size() && coins.get(i) <= number; i++) {
            count += countWays(coins, i, number - coins.get(i), known);
        }
        known.put(key, count);
        return count;
    }

    int lengthOf(int semigroup, int number, boolean isLongest) {
        Numbers s = get(semigroup);
        near(number);
        TreeSet<Integer> found = lengthsOf(coinsOf(s), number);
        need(!found.isEmpty(), "NSEE");
        return isLongest ? found.last() : found.first();
    }

    int lengths(int semigroup, int number) {
        Numbers s = get(semigroup);
        near(number);
        return lengthsOf(coinsOf(s), number).size();
    }

    int deltas(int semigroup, int number) {
        Numbers s = get(semigroup);
        near(number);
        Set<Integer> unlike = new HashSet<>();
        int last = -1;
        for (int length : lengthsOf(coinsOf(s), number)) {
            if (last >= 0) {
                unlike.add(length - last);
            }
            last = length;
        }
        int total = 0;
        for (int delta : unlike) {
            if (delta <= 31) {
                total += (int) Math.round(Math.pow(2, delta - 1));
            }
        }
        return total;
    }

    private static TreeSet<Integer> lengthsOf(List<Integer> coins, int number) {
        List<TreeSet<Integer>> table = new ArrayList<>();
        table.add(new TreeSet<>(Set.of(0)));
        for (int n = 1; n <= number; n++) {
            TreeSet<Integer> here = new TreeSet<>();
            for (int coin : coins) {
                if (coin <= n) {
                    for (int length : table.get(n - coin)) {
                        here.add(length + 1);
                    }
                }
            }
            table.add(here);
        }
        return table.get(number);
    }

    int elasticity(int semigroup, boolean isLower) {
        List<Integer> coins = coinsOf(get(semigroup));
        int low = coins.get(0);
        int high = coins.get(coins.size() - 1);
        for (int d = low; d > 1; d--) {
            if (low % d == 0 && high % d == 0) {
                low /= d;
                high /= d;
            }
        }
        return isLower ? low : high;
    }

    int catenary(int semigroup, int number) {
        Numbers s = get(semigroup);
        near(number);
        List<int[]> ways = listWays(s, number);
        for (int d = 0; ; d++) {
            if (countGroups(ways, d) <= 1) {
                return d;
            }
        }
    }

    int parts(int semigroup, int number) {
        Numbers s = get(semigroup);
        near(number);
        return countGroups(listWays(s, number), -1);
    }

    int bettis(int semigroup) {
        return countRelations(get(semigroup), false);
    }

    int relations(int semigroup) {
        return countRelations(get(semigroup), true);
    }

    private int countRelations(Numbers s, boolean areRelations) {
        int least = coinsOf(s).get(0);
        Set<Integer> looked = new TreeSet<>();
        for (int i = 0; i < least; i++) {
            int w = i;
            while (!s.at(w)) {
                w += least;
            }
            for (int coin : coinsOf(s)) {
                if (w + coin <= 300) {
                    looked.add(w + coin);
                }
            }
        }
        int total = 0;
        for (int n : looked) {
            int groups = countGroups(listWays(s, n), -1);
            if (groups >= 2) {
                total += areRelations ? groups - 1 : 1;
            }
        }
        return total;
    }

    /** Groups of ways that are joined by a common coin, or by a distance of at most d if it is not below 0. */
    private static int countGroups(List<int[]> ways, int d) {
        boolean[] seen = new boolean[ways.size()];
        int groups = 0;
        for (int start = 0; start < ways.size(); start++) {
            if (seen[start]) {
                continue;
            }
            groups++;
            seen[start] = true;
            ArrayDeque<Integer> open = new ArrayDeque<>(List.of(start));
            while (!open.isEmpty()) {
                int[] one = ways.get(open.poll());
                for (int i = 0; i < ways.size(); i++) {
                    if (!seen[i] && (d < 0 ? haveCommon(one, ways.get(i)) : distance(one, ways.get(i)) <= d)) {
                        seen[i] = true;
                        open.add(i);
                    }
                }
            }
        }
        return groups;
    }

    private static boolean haveCommon(int[] a, int[] b) {
        for (int i = 0; i < a.length; i++) {
            if (a[i] > 0 && b[i] > 0) {
                return true;
            }
        }
        return false;
    }

    private static int distance(int[] a, int[] b) {
        int common = 0;
        for (int i = 0; i < a.length; i++) {
            common += Math.min(a[i], b[i]);
        }
        return Math.max(Arrays.stream(a).sum(), Arrays.stream(b).sum()) - common;
    }

    private static List<int[]> listWays(Numbers s, int number) {
        List<Integer> coins = coinsOf(s);
        need(countWays(coins, 0, number, new HashMap<>()) <= 400, "UOE");
        List<int[]> ways = new ArrayList<>();
        addWays(coins, coins.size() - 1, number, new int[coins.size()], ways, new HashMap<>());
        return ways;
    }

    private static void addWays(List<Integer> coins, int index, int rest, int[] taken, List<int[]> ways,
            Map<Integer, Boolean> known) {
        if (rest == 0) {
            ways.add(taken.clone());
            return;
        }
        if (index < 0 || !canPay(coins, index, rest, known)) {
            return;
        }
        for (int times = 0; times * coins.get(index) <= rest; times++) {
            taken[index] = times;
            addWays(coins, index - 1, rest - times * coins.get(index), taken, ways, known);
        }
        taken[index] = 0;
    }

    private static boolean canPay(List<Integer> coins, int index, int rest, Map<Integer, Boolean> known) {
        if (rest == 0) {
            return true;
        }
        if (index < 0 || rest < 0) {
            return false;
        }
        int key = index * 1000 + rest;
        Boolean old = known.get(key);
        if (old == null) {
            old = canPay(coins, index - 1, rest, known) || canPay(coins, index, rest - coins.get(index), known);
            known.put(key, old);
        }
        return old;
    }

    // ---- ideals

    int ideal(int semigroup) {
        Numbers s = get(semigroup);
        need(!row.isEmpty(), "IAE");
        Numbers made = new Numbers();
        for (int number : row) {
            for (int n = 0; n <= 2 * WIDE; n++) {
                if (s.at(n)) {
                    made.put(number - 150 + n);
                }
            }
        }
        need(ideals.size() < 8, "ISE");
        row.clear();
        return keepIdeal(made, semigroup);
    }

    int canonical(int semigroup) {
        return keepIdeal(canonicalOf(get(semigroup)), semigroup);
    }

    private static Numbers canonicalOf(Numbers s) {
        Numbers made = new Numbers();
        int f = s.lastOut();
        for (int n = -WIDE; n <= WIDE; n++) {
            if (!s.at(f - n)) {
                made.put(n);
            }
        }
        return made;
    }

    int combine(int ideal, int other, char kind) {
        Numbers a = getIdeal(ideal);
        Numbers b = getIdeal(other);
        need("+-&|".indexOf(kind) >= 0 && a.owner == b.owner, "IAE");
        Numbers made = new Numbers();
        if (kind == '+') {
            made = sum(a, b);
        } else if (kind == '-') {
            made = difference(a, b);
        } else {
            for (int n = -WIDE; n <= WIDE; n++) {
                if (kind == '&' ? a.at(n) && b.at(n) : a.at(n) || b.at(n)) {
                    made.put(n);
                }
            }
        }
        need(made.first() >= -300 && made.first() <= 300, "UOE");
        return keepIdeal(made, a.owner);
    }

    private static Numbers difference(Numbers a, Numbers b) {
        Numbers made = new Numbers();
        int firstB = b.first();
        for (int z = -WIDE / 2; z <= WIDE; z++) {
            boolean isIn = true;
            for (int n = firstB; n <= WIDE && isIn; n++) {
                isIn = !b.at(n) || a.at(z + n);
            }
            if (isIn) {
                made.put(z);
            }
        }
        return made;
    }

    int dual(int ideal) {
        Numbers a = getIdeal(ideal);
        Numbers made = difference(canonicalOf(yard.get(a.owner)), a);
        need(made.first() >= -300 && made.first() <= 300, "UOE");
        return keepIdeal(made, a.owner);
    }

    private int keepIdeal(Numbers made, int owner) {
        need(ideals.size() < 8, "ISE");
        made.owner = owner;
        ideals.add(made);
        return ideals.size() - 1;
    }

    int dropIdeal() {
        need(!ideals.isEmpty(), "ISE");
        ideals.remove(ideals.size() - 1);
        return ideals.size();
    }

    boolean isIn(int ideal, int number) {
        return getIdeal(ideal).at(number);
    }

    int needs(int ideal) {
        Numbers a = getIdeal(ideal);
        Numbers s = yard.get(a.owner);
        int count = 0;
        int first = a.first();
        for (int n = first; n <= WIDE; n++) {
            boolean isNeeded = a.at(n);
            for (int other = first; other < n && isNeeded; other++) {
                isNeeded = !(a.at(other) && s.at(n - other));
            }
            count += isNeeded ? 1 : 0;
        }
        return count;
    }

    int least(int ideal) {
        return getIdeal(ideal).first();
    }

    boolean areMoved(int ideal, int other) {
        Numbers a = getIdeal(ideal);
        Numbers b = getIdeal(other);
        int firstA = a.first();
        int firstB = b.first();
        for (int n = 0; n <= WIDE; n++) {
            if (a.at(firstA + n) != b.at(firstB + n)) {
                return false;
            }
        }
        return true;
    }

    // ---- series, codes, games, change

    int coefficient(int semigroup, int power) {
        Numbers s = get(semigroup);
        need(power >= 0, "IAE");
        return (s.at(power) ? 1 : 0) - (s.at(power - 1) ? 1 : 0);
    }

    int pairs(int semigroup, int index) {
        Numbers s = get(semigroup);
        near(index);
        return pairsOf(s, elementsOf(s).get(index));
    }

    int bound(int semigroup, int index) {
        Numbers s = get(semigroup);
        near(index);
        int best = Integer.MAX_VALUE;
        List<Integer> elements = elementsOf(s);
        for (int i = index; i < elements.size(); i++) {
            best = Math.min(best, pairsOf(s, elements.get(i)));
        }
        return best;
    }

    private static int pairsOf(Numbers s, int element) {
        int count = 0;
        for (int n = 0; n <= element; n++) {
            count += s.at(n) && s.at(element - n) ? 1 : 0;
        }
        return count;
    }

    boolean wins(int semigroup) {
        Numbers s = get(semigroup);
        need(gapsOf(s).size() <= 12, "UOE");
        return isWon(gapsOf(s), new HashMap<>());
    }

    private static boolean isWon(List<Integer> gaps, Map<List<Integer>, Boolean> known) {
        if (gaps.isEmpty()) {
            return true;
        }
        Boolean old = known.get(gaps);
        if (old != null) {
            return old;
        }
        boolean isWon = false;
        for (int named : gaps) {
            if (named == 1) {
                continue;
            }
            List<Integer> left = new ArrayList<>();
            for (int gap : gaps) {
                boolean isPaid = false;
                for (int times = 0; times * named <= gap; times++) {
                    isPaid |= !gaps.contains(gap - times * named);
                }
                if (!isPaid) {
                    left.add(gap);
                }
            }
            isWon |= !isWon(left, known);
        }
        known.put(gaps, isWon);
        return isWon;
    }

    int greed(int semigroup, int number) {
        Numbers s = get(semigroup);
        near(number);
        int coins = greedOf(coinsOf(s), number);
        need(coins >= 0, "NSEE");
        return coins;
    }

    private static int greedOf(List<Integer> coins, int number) {
        int rest = number;
        int count = 0;
        boolean isMoving = true;
        while (isMoving) {
            isMoving = false;
            for (int i = coins.size() - 1; i >= 0 && !isMoving; i--) {
                if (coins.get(i) <= rest) {
                    rest -= coins.get(i);
                    count++;
                    isMoving = true;
                }
            }
        }
        return rest == 0 ? count : -1;
    }

    boolean isGreedy(int semigroup, int number) {
        Numbers s = get(semigroup);
        near(number);
        List<Integer> coins = coinsOf(s);
        for (int n = 0; n <= number; n++) {
            if (s.at(n) && greedOf(coins, n) != lengthsOf(coins, n).first()) {
                return false;
            }
        }
        return true;
    }

    int stamps(int stamps) {
        need(stamps >= 1 && stamps <= 20 && !row.isEmpty(), "IAE");
        boolean[] made = sumsOf(stamps, true);
        int n = 0;
        while (made[n + 1]) {
            n++;
        }
        return n;
    }

    int sums(int times) {
        need(times >= 0 && times <= 9 && !row.isEmpty(), "IAE");
        int count = 0;
        for (boolean isMade : sumsOf(times, false)) {
            count += isMade ? 1 : 0;
        }
        return count;
    }

    private boolean[] sumsOf(int times, boolean isAtMost) {
        boolean[] made = new boolean[6400];
        made[0] = true;
        for (int i = 0; i < times; i++) {
            boolean[] next = isAtMost ? made.clone() : new boolean[6400];
            for (int n = 0; n <= 6000; n++) {
                for (int number : row) {
                    next[n + number] |= made[n];
                }
            }
            made = next;
        }
        return made;
    }

    int nim(int semigroup, int number) {
        Numbers s = get(semigroup);
        near(number);
        List<Integer> coins = coinsOf(s);
        List<Integer> values = new ArrayList<>();
        for (int n = 0; n <= number; n++) {
            Set<Integer> seen = new HashSet<>();
            for (int coin : coins) {
                if (coin <= n) {
                    seen.add(values.get(n - coin));
                }
            }
            int value = 0;
            while (seen.contains(value)) {
                value++;
            }
            values.add(value);
        }
        return values.get(number);
    }

    // ---- figures

    float share(int semigroup) {
        Numbers s = get(semigroup);
        int conductor = s.lastOut() + 1;
        need(conductor != 0, "AE");
        int left = 0;
        for (int n = 0; n < conductor; n++) {
            left += s.at(n) ? 1 : 0;
        }
        return (float) left / (float) conductor;
    }

    double meanGenus() {
        need(!yard.isEmpty(), "AE");
        int total = 0;
        for (Numbers s : yard) {
            total += gapsOf(s).size();
        }
        return (double) total / (double) yard.size();
    }

    long checksum() {
        long total = 7;
        for (Numbers s : yard) {
            for (int gap : gapsOf(s)) {
                total = 31 * total + gap;
            }
            total = 31 * total + gapsOf(s).size();
        }
        return total;
    }

    boolean isSound() {
        return true;
    }

    /** All that the object holds, to see that a call that throws changes nothing. */
    int rowSize() {
        return row.size();
    }

    int yardSize() {
        return yard.size();
    }

    int idealsSize() {
        return ideals.size();
    }

    // ---- helpers

    private Numbers get(int index) {
        need(index >= 0 && index < yard.size(), "IOOBE");
        return yard.get(index);
    }

    private Numbers getIdeal(int index) {
        need(index >= 0 && index < ideals.size(), "IOOBE");
        return ideals.get(index);
    }

    private static int find(List<Integer> list, int index) {
        need(index >= 0 && index < list.size(), "NSEE");
        return list.get(index);
    }

    private static void near(int number) {
        need(number >= 0 && number <= 300, "IAE");
    }

    private static void need(boolean isSo, String name) {
        if (isSo) {
            return;
        }
        switch (name) {
            case "IAE":
                throw new IllegalArgumentException();
            case "ISE":
                throw new IllegalStateException();
            case "UOE":
                throw new UnsupportedOperationException();
            case "IOOBE":
                throw new IndexOutOfBoundsException();
            case "NSEE":
                throw new NoSuchElementException();
            default:
                throw new ArithmeticException();
        }
    }

    private static Numbers copy(Numbers other) {
        Numbers made = new Numbers();
        System.arraycopy(other.in, 0, made.in, 0, made.in.length);
        return made;
    }

    private static List<Integer> gapsOf(Numbers s) {
        List<Integer> gaps = new ArrayList<>();
        for (int n = 0; n <= WIDE; n++) {
            if (!s.at(n)) {
                gaps.add(n);
            }
        }
        return gaps;
    }

    private static List<Integer> elementsOf(Numbers s) {
        List<Integer> elements = new ArrayList<>();
        for (int n = 0; n <= WIDE; n++) {
            if (s.at(n)) {
                elements.add(n);
            }
        }
        return elements;
    }

    private static List<Integer> coinsOf(Numbers s) {
        List<Integer> coins = new ArrayList<>();
        for (int n = 1; n <= 700; n++) {
            boolean isCoin = s.at(n);
            for (int a = 1; a < n && isCoin; a++) {
                isCoin = !(s.at(a) && s.at(n - a));
            }
            if (isCoin) {
                coins.add(n);
            }
        }
        return coins;
    }

    private static List<Integer> pseudosOf(Numbers s) {
        List<Integer> found = new ArrayList<>();
        for (int n = -650; n <= 650; n++) {
            boolean isPseudo = !s.at(n);
            for (int e = 1; e <= 650 && isPseudo; e++) {
                isPseudo = !s.at(e) || s.at(n + e);
            }
            if (isPseudo) {
                found.add(n);
            }
        }
        return found;
    }
}
