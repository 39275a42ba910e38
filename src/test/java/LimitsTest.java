/** The semigroups and ideals at the limits of the document, asked for all that there is, beside the model. */
public final class LimitsTest {
    private static final int[] NUMBERS = {Integer.MIN_VALUE, -301, -300, -2, -1, 0, 1, 2, 3, 4, 5, 11, 12, 60, 100, 101, 149, 150,
        151, 200, 202, 234, 295, 298, 299, 300, 301, 302, 599, 600, 601, Integer.MAX_VALUE};

    public static void main(String[] args) {
        ask(of(1));
        ask(of(2, 3));
        ask(of(2, 299));
        ask(of(3, 5));
        ask(of(3, 151));
        ask(of(4, 101));
        ask(of(5, 76));
        ask(of(11, 31));
        ask(of(12, 25));
        ask(of(7, 43));
        ask(of(6, 10, 15));
        ask(of(2, 25));
        ask(of(12, 13, 14, 15, 16, 17, 18, 19, 20, 21, 22, 23));
        ask(of(7, 295, 296, 297, 298, 299, 300));
        ask(ofTwelveGaps(1));
        ask(ofTwelveGaps(2));
        closed(70, 71, 73, 79, 83, 89, 97, 101, 103, 107, 109, 113);
        closed(83, 92, 106, 120, 114, 104, 74, 88, 70, 92, 78, 80);
        closed(79, 52, 44, 44, 46, 44, 62, 68, 40, 76, 50, 70);
        closed(4, 101);
        late();
        idealsOf(1);
        idealsOf(2, 3);
        idealsOf(4, 101);
        idealsOf(7, 295, 296, 297, 298, 299, 300);
        System.out.println(Pair.wrong() == 0 ? Pair.answers() + " answers at the limits are the model's"
                : Pair.wrong() + " answers differ");
        if (Pair.wrong() != 0) {
            System.exit(1);
        }
    }

    private static Pair of(int... coins) {
        Pair pair = new Pair();
        pair.span(coins);
        return pair;
    }

    private static Pair ofTwelveGaps(int step) {
        Pair pair = new Pair();
        for (int i = 0; i < 12; i++) {
            pair.type(1 + i * step);
        }
        pair.both("fromGaps");
        return pair;
    }

    private static void ask(Pair pair) {
        askNumbers(pair, 0);
        askFigures(pair, 0, 4);
        for (int n : NUMBERS) {
            askOf(pair, 0, n);
        }
    }

    /** The Arf closure of some coins, then its own closures. */
    private static void closed(int... coins) {
        Pair pair = of(coins);
        int arf = pair.number("closure", 0, 'r');
        askNumbers(pair, arf);
        askFigures(pair, arf, 2);
        for (int n = -1; n <= 301; n += 43) {
            askOf(pair, arf, n);
        }
        for (char kind : new char[] {'r', 'b', 'u', 'z'}) {
            askNumbers(pair, pair.number("closure", 0, kind));
            askNumbers(pair, pair.number("closure", arf, kind));
        }
    }

    /** All from 295 on up to all from 300 on; then what can be made of these. */
    private static void late() {
        Pair pair = new Pair();
        pair.span(5, 296, 297, 298, 299);
        pair.span(7, 295, 296, 297, 298, 299, 300);
        pair.span(11, 290, 291, 292, 293, 294, 295, 296, 297, 298, 299, 300);
        pair.both("meet", 0, 1, false);
        pair.both("meet", 3, 2, false);
        for (int i = 4; i < 9; i++) {
            pair.both("without", i, 0);
        }
        askNumbers(pair, 9);
        askFigures(pair, 9, 1);
        for (int n : NUMBERS) {
            askOf(pair, 9, n);
        }
        pair.both("without", 9, 0);
        pair.both("without", 9, 299);
        pair.both("drop");
        for (int index : new int[] {0, 1, 2, 298, 299, 300}) {
            askAndDropNumbers(pair, pair.number("without", 8, index));
        }
        for (char kind : new char[] {'r', 'b', 'u', 'z'}) {
            askAndDropNumbers(pair, pair.number("closure", 8, kind));
        }
        for (int divisor : new int[] {0, 1, 2, 3, 149, 150, 297, 298, 299, 300, 301}) {
            askAndDropNumbers(pair, pair.number("quotient", 8, divisor));
        }
        for (int other = 0; other < 9; other++) {
            askAndDropNumbers(pair, pair.number("meet", 8, other, false));
            askAndDropNumbers(pair, pair.number("meet", other, 8, true));
        }
        pair.ask("meanGenus");
        pair.ask("checksum");
        pair.ask("isSound");
    }

    /** The last semigroup, if it could be made. */
    private static void askAndDropNumbers(Pair pair, int made) {
        if (made >= 0) {
            askNumbers(pair, made);
            pair.both("drop");
        }
    }

    private static void askNumbers(Pair pair, int s) {
        pair.ask("frobenius", s);
        pair.ask("genus", s);
        pair.ask("generators", s);
        pair.ask("typeOf", s);
        pair.ask("checksum");
        for (int n = -2; n <= 610; n++) {
            pair.ask("has", s, n);
        }
        for (int index = -1; index <= 301; index += index < 8 || index > 290 ? 1 : 29) {
            pair.ask("gap", s, index);
            pair.ask("generator", s, index);
            pair.ask("pseudo", s, index);
        }
    }

    private static void askFigures(Pair pair, int s, int steps) {
        for (char kind : "spamrotcz".toCharArray()) {
            pair.ask("isKind", s, kind);
        }
        for (int n = -1; n <= steps; n++) {
            pair.ask("below", s, n);
        }
        pair.ask("wilf", s);
        pair.ask("children", s);
        pair.ask("elasticity", s, true);
        pair.ask("elasticity", s, false);
        pair.ask("bettis", s);
        pair.ask("relations", s);
        pair.ask("wins", s);
        pair.ask("share", s);
        pair.ask("meanGenus");
        for (int element = -1; element <= 301; element += element < 12 || element > 298 ? 1 : 11) {
            for (int index = -1; index <= element + 1; index += index < 4 || index > element - 3 ? 1 : 17) {
                pair.ask("apery", s, element, index);
            }
        }
    }

    private static void askOf(Pair pair, int s, int n) {
        pair.ask("has", s, n);
        pair.ask("gap", s, n);
        pair.ask("ways", s, n);
        pair.ask("lengthOf", s, n, true);
        pair.ask("lengthOf", s, n, false);
        pair.ask("lengths", s, n);
        pair.ask("deltas", s, n);
        pair.ask("catenary", s, n);
        pair.ask("parts", s, n);
        pair.ask("coefficient", s, n);
        pair.ask("pairs", s, n);
        pair.ask("bound", s, n);
        pair.ask("greed", s, n);
        pair.ask("isGreedy", s, n);
        pair.ask("nim", s, n);
    }

    /** Ideals as low and as high as can be, and what comes of each two of them. */
    private static void idealsOf(int... coins) {
        int[][] rows = {{0}, {300}, {0, 300}, {150}, {150, 151}, {149, 152}};
        Pair pair = of(coins);
        for (int[] row : rows) {
            pair.type(row);
            pair.both("ideal", 0);
        }
        pair.both("combine", 0, 0, '+');
        int last = pair.number("combine", 1, 1, '+');
        for (int i = 0; i <= last; i++) {
            askIdeal(pair, i);
        }
        for (int i = 0; i <= last; i++) {
            pair.ask("dual", i);
            pair.ask("combine", i, i, '-');
        }
        pair.both("dropIdeal");
        for (int i = 0; i < last; i++) {
            makeOf(pair, i, last);
        }
        pair.ask("isSound");
    }

    /** Ideal 7 is made, asked, and taken away again. */
    private static void makeOf(Pair pair, int i, int last) {
        for (char kind : new char[] {'+', '-', '&', '|'}) {
            for (int k = 0; k < last; k++) {
                askAndDrop(pair, pair.number("combine", i, k, kind));
            }
        }
        askAndDrop(pair, pair.number("dual", i));
        askAndDrop(pair, pair.number("canonical", 0));
    }

    private static void askAndDrop(Pair pair, int made) {
        if (made >= 0) {
            askIdeal(pair, made);
            pair.ask("isSound");
            pair.both("dropIdeal");
        }
    }

    private static void askIdeal(Pair pair, int ideal) {
        pair.ask("least", ideal);
        pair.ask("needs", ideal);
        for (int other = 0; other < 8; other++) {
            pair.ask("areMoved", ideal, other);
        }
        for (int n = -303; n <= 610; n++) {
            pair.ask("isIn", ideal, n);
        }
    }
}
