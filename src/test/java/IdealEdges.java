/** Ideals: promises 33 to 41. */
final class IdealEdges extends Yards {
    private static final String RANGE = "if its least number would be below -300, or above 300";
    private static final String EIGHT = "if there are 8";

    private final Edges edges;

    IdealEdges(Edges edges) {
        this.edges = edges;
    }

    void run() {
        ideal();
        idealsFull();
        canonical();
        kinds();
        sums();
        differences();
        common();
        either();
        combineRefused();
        dual();
        dualRange();
        dropIdeal();
        isIn();
        needsAndLeast();
        areMoved();
    }

    /** The numbers of an ideal from its least one up to the one from which on all are in it. */
    private void membersAre(GapYard yard, int ideal, int... members) {
        int first = members[0];
        int last = members[members.length - 1];
        edges.due(first, () -> yard.least(ideal));
        edges.due(false, () -> yard.isIn(ideal, first - 1));
        for (int n = first; n <= last + 3; n++) {
            boolean isMember = n > last;
            for (int member : members) {
                isMember |= member == n;
            }
            int number = n;
            edges.due(isMember, () -> yard.isIn(ideal, number));
        }
        for (int far : new int[] {last + 100, 599, 600, 601, MAX}) {
            edges.due(far > last, () -> yard.isIn(ideal, far));
        }
        edges.due(false, () -> yard.isIn(ideal, -301));
    }

    private void ideal() {
        edges.edge(33, "Adds the ideal of the numbers of the row, less 150 each.", "0 and 300, the least and the greatest that are typed");
        GapYard yard = typed(of(3, 5), 0);
        edges.due(0, () -> yard.ideal(0));
        membersAre(yard, 0, -150, -147, -145, -144, -142);
        typed(yard, 300);
        edges.due(1, () -> yard.ideal(0));
        membersAre(yard, 1, 150, 153, 155, 156, 158);
        edges.edge(33, "Adds the ideal of the numbers of the row, less 150 each.", "0 and 300 together");
        typed(yard, 300, 0);
        edges.due(2, () -> yard.ideal(0));
        membersAre(yard, 2, -150, -147, -145, -144, -142);
        edges.edge(33, "Adds the ideal of the numbers of the row, less 150 each.", "twelve numbers, the last of which counts");
        typed(yard, 157, 157, 157, 157, 157, 157, 157, 157, 157, 157, 157, 150);
        edges.due(3, () -> yard.ideal(0));
        membersAre(yard, 3, 0, 3, 5);
        edges.edge(Edges.TERMS, "the sums of some whole numbers, told ones first, and its elements.", "0 is an element: the told ones are in it");
        membersAre(yard, idealOf(yard, 0, -2, 5), -2, 1, 3, 4, 5, 6);
        edges.edge(33, "if the row is empty", "never typed, wiped, and taken by the ideal ahead of it");
        edges.refused(ARGUMENT, () -> of(3, 5), one -> one.ideal(0));
        edges.refused(ARGUMENT, () -> {
            GapYard wiped = typed(of(3, 5), 150);
            wiped.wipe();
            return wiped;
        }, one -> one.ideal(0));
        edges.refused(ARGUMENT, () -> manyIdeals(1), one -> one.ideal(0));
    }

    private void idealsFull() {
        edges.edge(33, EIGHT, "the eighth is taken and has number 7, the ninth is refused");
        edges.due(7, () -> typed(manyIdeals(7), 150).ideal(0));
        edges.refused(STATE, () -> typed(manyIdeals(8), 150), yard -> yard.ideal(0));
        edges.edge(33, EIGHT, "with one taken away there is room again");
        GapYard yard = typed(manyIdeals(8), 190);
        yard.dropIdeal();
        edges.due(7, () -> yard.ideal(0));
        edges.due(40, () -> yard.least(7));
        edges.edge(33, "if the row is empty", "it is thrown first, if there are 8 as well");
        edges.refused(ARGUMENT, () -> manyIdeals(8), one -> one.ideal(0));
        edges.edge(Edges.TERMS, "At most 8 ideals have numbers from 0 on, each of a semigroup:",
                "each call that adds one adds the eighth, and none the ninth");
        for (Edges.Call call : adding()) {
            edges.due(7, () -> call.on(typed(manyIdeals(7), 150)));
            edges.refused(STATE, () -> typed(manyIdeals(8), 150), call);
        }
        edges.edge(Edges.TERMS, "At most 8 ideals have numbers from 0 on, each of a semigroup:", "eight of all semigroups together");
        edges.refused(STATE, () -> {
            GapYard two = manyIdeals(7);
            span(two, 2, 3);
            two.canonical(1);
            return two;
        }, one -> one.canonical(1));
        edges.edge(34, EIGHT, "the eighth is taken and has number 7, the ninth is refused");
        edges.due(7, () -> manyIdeals(7).canonical(0));
        edges.refused(STATE, () -> manyIdeals(8), one -> one.canonical(0));
    }

    private static Edges.Call[] adding() {
        return new Edges.Call[] {
            yard -> yard.ideal(0),
            yard -> yard.canonical(0),
            yard -> yard.combine(0, 1, '+'),
            yard -> yard.combine(0, 1, '-'),
            yard -> yard.combine(0, 1, '&'),
            yard -> yard.combine(0, 1, '|'),
            yard -> yard.dual(0),
        };
    }

    private void canonical() {
        edges.edge(34, "Adds the canonical ideal.", "of all numbers, of one gap, of the greatest conductor");
        GapYard all = all();
        edges.due(0, () -> all.canonical(0));
        membersAre(all, 0, 0);
        GapYard two = of(2, 3);
        edges.due(0, () -> two.canonical(0));
        membersAre(two, 0, 0, 2);
        GapYard late = late(300);
        edges.due(0, () -> late.canonical(9));
        edges.due(0, () -> late.least(0));
        edges.due(299, () -> late.needs(0));
        for (int n = 0; n <= 302; n++) {
            int number = n;
            edges.due(n != 299, () -> late.isIn(0, number));
        }
        edges.edge(Edges.TERMS, "The canonical ideal has all numbers i for which the Frobenius number less i is no element.",
                "0 is the least one, the Frobenius number is none, all above are in it");
        GapYard great = of(4, 101);
        great.canonical(0);
        edges.due(0, () -> great.least(0));
        edges.due(false, () -> great.isIn(0, 299));
        edges.due(true, () -> great.isIn(0, 300));
        edges.due(true, () -> great.isIn(0, 298));
        edges.due(1, () -> great.needs(0));
        edges.due(false, () -> all.isIn(0, -1));
        edges.edge(34, "Adds the canonical ideal.", "the row stays");
        GapYard kept = typed(of(3, 5), 4);
        kept.canonical(0);
        edges.due(1, kept::wipe);
    }

    // ---- combine

    private void kinds() {
        edges.edge(35, "Adds what comes of two ideals: '+' all sums, '-' their difference, '&' what both have, '|' what either has.",
                "each kind of the same two");
        GapYard yard = of(3, 5);
        idealOf(yard, 0, 0, 2);
        idealOf(yard, 0, 1, 5);
        edges.due(2, () -> yard.combine(0, 1, '+'));
        membersAre(yard, 2, 1, 3, 4);
        edges.due(3, () -> yard.combine(0, 1, '-'));
        membersAre(yard, 3, 1, 2, 4);
        edges.due(4, () -> yard.combine(0, 1, '&'));
        membersAre(yard, 4, 5, 6, 7);
        edges.due(5, () -> yard.combine(0, 1, '|'));
        membersAre(yard, 5, 0, 1, 2, 3, 4);
        edges.edge(35, "another one, or the same", "the same, of each kind");
        GapYard same = of(3, 5);
        idealOf(same, 0, -4);
        edges.due(1, () -> same.combine(0, 0, '+'));
        membersAre(same, 1, -8, -5, -3, -2, 0);
        edges.due(2, () -> same.combine(0, 0, '-'));
        membersAre(same, 2, 0, 3, 5, 6, 8);
        edges.due(3, () -> same.combine(0, 0, '&'));
        membersAre(same, 3, -4, -1, 1, 2, 4);
        edges.due(4, () -> same.combine(0, 0, '|'));
        membersAre(same, 4, -4, -1, 1, 2, 4);
        edges.edge(Edges.TERMS, "The difference of two ideals has all whole numbers whose sums with all elements of the second one are in the first one.",
                "also numbers below 0, and not those that miss one sum");
        GapYard two = of(3, 5);
        idealOf(two, 0, 0);
        idealOf(two, 0, 7);
        edges.due(2, () -> two.combine(0, 1, '-'));
        membersAre(two, 2, -7, -4, -2, -1, 1);
        idealOf(two, 0, 0, 1);
        // 3 and 6 are not in it, as 4 and 7 are not in the first one.
        edges.due(4, () -> two.combine(0, 3, '-'));
        membersAre(two, 4, 5, 8);
    }

    /** Of all numbers: from 150, -150, 1, 300 and 151 on. */
    private static GapYard high() {
        GapYard yard = all();
        idealOf(yard, 0, 150);
        idealOf(yard, 0, -150);
        idealOf(yard, 0, 1);
        yard.combine(0, 0, '+');
        yard.combine(0, 2, '+');
        return yard;
    }

    /** Of all numbers: from -150, 150, -1, -300 and -151 on. */
    private static GapYard low() {
        GapYard yard = all();
        idealOf(yard, 0, -150);
        idealOf(yard, 0, 150);
        idealOf(yard, 0, -1);
        yard.combine(0, 0, '+');
        yard.combine(0, 2, '+');
        return yard;
    }

    private void leastIs(int due, GapYard yard, int ideal, int other, char kind) {
        edges.due(5, () -> yard.combine(ideal, other, kind));
        edges.due(due, () -> yard.least(5));
        edges.due(true, () -> yard.isIn(5, due));
        edges.due(false, () -> yard.isIn(5, due - 1));
    }

    private void sums() {
        edges.edge(35, RANGE, "sums from 300 on are taken, from 301 on refused");
        leastIs(300, high(), 0, 0, '+');
        edges.refused(UNSUPPORTED, () -> high(), yard -> yard.combine(3, 2, '+'));
        edges.refused(UNSUPPORTED, () -> high(), yard -> yard.combine(4, 0, '+'));
        edges.refused(UNSUPPORTED, () -> high(), yard -> yard.combine(3, 3, '+'));
        edges.edge(35, RANGE, "sums from -300 on are taken, from -301 on refused");
        leastIs(-300, low(), 0, 0, '+');
        edges.refused(UNSUPPORTED, () -> low(), yard -> yard.combine(3, 2, '+'));
        edges.refused(UNSUPPORTED, () -> low(), yard -> yard.combine(0, 4, '+'));
        edges.refused(UNSUPPORTED, () -> low(), yard -> yard.combine(3, 3, '+'));
    }

    private void differences() {
        edges.edge(35, RANGE, "differences from 300 on are taken, from 301 on refused");
        leastIs(300, high(), 0, 1, '-');
        edges.refused(UNSUPPORTED, () -> high(), yard -> yard.combine(4, 1, '-'));
        edges.refused(UNSUPPORTED, () -> high(), yard -> yard.combine(3, 1, '-'));
        edges.edge(35, RANGE, "differences from -300 on are taken, from -301 on refused");
        leastIs(-300, low(), 0, 1, '-');
        edges.refused(UNSUPPORTED, () -> low(), yard -> yard.combine(4, 1, '-'));
        edges.refused(UNSUPPORTED, () -> low(), yard -> yard.combine(3, 1, '-'));
        edges.edge(35, RANGE, "the least difference may be above that of the least numbers, of 2 and 3 by 2");
        edges.due(300, () -> leastDifference(150, -148));
        edges.refused(UNSUPPORTED, () -> twoIdeals(150, -149), yard -> yard.combine(0, 3, '-'));
        edges.due(-300, () -> leastDifference(-150, 152));
        edges.refused(UNSUPPORTED, () -> twoIdeals(-150, 153), yard -> yard.combine(0, 3, '-'));
    }

    /** Of 2 and 3: ideal 0 lacks 1 behind its least number, ideal 3 has all from a number on. */
    private static GapYard twoIdeals(int first, int second) {
        GapYard yard = of(2, 3);
        idealOf(yard, 0, first);
        idealOf(yard, 0, second / 2, second / 2 + 1);
        idealOf(yard, 0, second - second / 2);
        yard.combine(1, 2, '+');
        return yard;
    }

    private static int leastDifference(int first, int second) {
        GapYard yard = twoIdeals(first, second);
        return yard.least(yard.combine(0, 3, '-'));
    }

    /** Of 2 and 3: the ideals of 150 and of two numbers more, each with the sums of 150 and it. */
    private static GapYard twoThree(int one, int other) {
        GapYard yard = of(2, 3);
        idealOf(yard, 0, 150);
        idealOf(yard, 0, one);
        idealOf(yard, 0, other);
        yard.combine(0, 1, '+');
        yard.combine(0, 2, '+');
        return yard;
    }

    private void common() {
        edges.edge(35, RANGE, "what both have from 300 on is taken: 298, 300, 301 and 297, 299, 300");
        leastIs(300, twoThree(148, 147), 3, 4, '&');
        edges.edge(35, RANGE, "what both have from 301 on is refused: 299, 301 and 298, 300, 301");
        edges.refused(UNSUPPORTED, () -> twoThree(149, 148), yard -> yard.combine(3, 4, '&'));
        edges.refused(UNSUPPORTED, () -> twoThree(150, 149), yard -> yard.combine(3, 4, '&'));
        edges.edge(35, RANGE, "what both have from -300 on");
        leastIs(-300, low(), 3, 3, '&');
        leastIs(300, high(), 3, 1, '&');
        leastIs(150, low(), 3, 1, '&');
    }

    private void either() {
        edges.edge(35, RANGE, "what either has is never out of range");
        leastIs(-300, low(), 3, 1, '|');
        leastIs(300, high(), 3, 3, '|');
        leastIs(-150, high(), 3, 1, '|');
    }

    private void combineRefused() {
        edges.edge(35, "there is no such kind", "those beside each kind, kinds of closure, the ends of char");
        for (char kind : new char[] {'*', ',', '.', '%', '\'', '{', '}', 'r', 'b', 'u', 's', 0, ' ', (char) 65535}) {
            edges.refused(ARGUMENT, () -> manyIdeals(2), yard -> yard.combine(0, 1, kind));
        }
        edges.edge(35, "they are of unlike semigroups", "of unlike sets, and of unlike numbers alone");
        for (char kind : new char[] {'+', '-', '&', '|'}) {
            edges.refused(ARGUMENT, () -> unlike(2, 3), yard -> yard.combine(0, 1, kind));
            edges.refused(ARGUMENT, () -> unlike(3, 5), yard -> yard.combine(1, 0, kind));
            edges.due(2, () -> unlike(2, 3).combine(1, 1, kind));
        }
        edges.edge(35, "if there is no such kind, or they are of unlike semigroups", "it is thrown first, if the rest applies as well");
        edges.refused(ARGUMENT, () -> high(), yard -> yard.combine(3, 2, '*'));
        edges.refused(ARGUMENT, () -> fullOfIdeals(), yard -> yard.combine(0, 1, '*'));
        edges.refused(ARGUMENT, () -> unlike(2, 3), yard -> yard.combine(0, 1, '*'));
        edges.edge(35, RANGE, "it is thrown first, if there are 8 as well");
        edges.refused(UNSUPPORTED, () -> filled(high()), yard -> yard.combine(3, 2, '+'));
        edges.refused(UNSUPPORTED, () -> filled(low()), yard -> yard.combine(4, 1, '-'));
        edges.refused(UNSUPPORTED, () -> filled(twoThree(149, 148)), yard -> yard.combine(3, 4, '&'));
        edges.edge(35, EIGHT, "the eighth is taken and has number 7, the ninth is refused");
        for (char kind : new char[] {'+', '-', '&', '|'}) {
            edges.due(7, () -> manyIdeals(7).combine(0, 6, kind));
            edges.refused(STATE, () -> fullOfIdeals(), yard -> yard.combine(0, 7, kind));
        }
    }

    /** An ideal of 3 and 5, and one of other coins; the sets may be the same. */
    private static GapYard unlike(int... coins) {
        GapYard yard = of(3, 5);
        idealOf(yard, 0, 0);
        span(yard, coins);
        idealOf(yard, 1, 0);
        return yard;
    }

    /** With canonical ideals up to eight. */
    private static GapYard filled(GapYard yard) {
        int made = 0;
        while (made < 7) {
            made = yard.canonical(0);
        }
        return yard;
    }

    // ---- dual

    private void dual() {
        edges.edge(36, "Adds the dual of an ideal.", "of the semigroup itself it is the canonical one, and again the semigroup");
        GapYard yard = of(3, 5, 7);
        idealOf(yard, 0, 0);
        edges.due(1, () -> yard.dual(0));
        membersAre(yard, 1, 0, 2, 3, 5);
        edges.due(2, () -> yard.dual(1));
        membersAre(yard, 2, 0, 3, 5);
        edges.edge(Edges.TERMS, "The dual of an ideal is the difference of the canonical one and it.", "both ways make one ideal");
        idealOf(yard, 0, 10, 11);
        yard.dual(3);
        yard.combine(1, 3, '-');
        membersAre(yard, 4, -8, -5);
        membersAre(yard, 5, -8, -5);
        edges.edge(36, EIGHT, "the eighth is taken and has number 7, the ninth is refused");
        edges.due(7, () -> manyIdeals(7).dual(6));
        edges.refused(STATE, () -> manyIdeals(8), one -> one.dual(7));
    }

    /** Of 2 and 3: the second ideal has all from a number on. */
    private static GapYard allFrom(int first) {
        GapYard yard = of(2, 3);
        idealOf(yard, 0, -150);
        idealOf(yard, 0, first + 150, first + 151);
        yard.combine(0, 1, '+');
        return yard;
    }

    private void dualRange() {
        edges.edge(36, "above 300", "300 is taken");
        GapYard two = allFrom(-298);
        edges.due(3, () -> two.dual(2));
        membersAre(two, 3, 300);
        GapYard all = low();
        edges.due(5, () -> all.dual(3));
        membersAre(all, 5, 300);
        edges.edge(36, "above 300", "301 and 302 are refused");
        edges.refused(UNSUPPORTED, () -> allFrom(-299), yard -> yard.dual(2));
        edges.refused(UNSUPPORTED, () -> allFrom(-300), yard -> yard.dual(2));
        edges.edge(36, "its least number would be below -300", "it never is: of all from 300 on it is -300");
        GapYard high = high();
        edges.due(5, () -> high.dual(3));
        membersAre(high, 5, -300);
        GapYard great = of(4, 101);
        idealOf(great, 0, 150);
        great.combine(0, 0, '+');
        edges.due(2, () -> great.dual(1));
        edges.due(-300, () -> great.least(2));
        edges.edge(36, RANGE, "it is thrown first, if there are 8 as well");
        edges.refused(UNSUPPORTED, () -> filled(allFrom(-299)), yard -> yard.dual(2));
        edges.refused(STATE, () -> filled(allFrom(-298)), yard -> yard.dual(2));
    }

    // ---- the rest

    private void dropIdeal() {
        edges.edge(37, "Returns how many are left.", "from eight down to none");
        GapYard yard = fullOfIdeals();
        for (int left = 7; left >= 0; left--) {
            int due = left;
            edges.due(due, yard::dropIdeal);
        }
        edges.edge(37, "if there is none", "a new object, one with a semigroup alone, one whose last has been taken away");
        edges.refused(STATE, GapYard::new, GapYard::dropIdeal);
        edges.refused(STATE, () -> of(3, 5), GapYard::dropIdeal);
        edges.refused(STATE, () -> {
            GapYard emptied = manyIdeals(1);
            emptied.dropIdeal();
            return emptied;
        }, GapYard::dropIdeal);
        edges.edge(37, "Takes the last ideal away.", "the others stay, and the semigroups, and the row");
        GapYard kept = typed(manyIdeals(3), 9);
        edges.due(2, kept::dropIdeal);
        edges.due(1, () -> kept.least(1));
        edges.due(7, () -> kept.frobenius(0));
        edges.due(1, kept::wipe);
    }

    private void isIn() {
        edges.edge(38, "Returns whether a number is in an ideal.", "its least number, 1 less, and numbers between that are not in it");
        GapYard yard = of(3, 5);
        idealOf(yard, 0, 4);
        edges.due(true, () -> yard.isIn(0, 4));
        edges.due(false, () -> yard.isIn(0, 3));
        edges.due(false, () -> yard.isIn(0, 11));
        edges.due(true, () -> yard.isIn(0, 12));
        edges.edge(38, "Returns whether a number is in an ideal.", "far above all are, far below none");
        for (int number : new int[] {300, 301, 599, 600, 601, 602, 1000000, MAX - 1, MAX}) {
            edges.due(true, () -> yard.isIn(0, number));
        }
        for (int number : new int[] {-299, -300, -301, -1000000, MIN + 1, MIN}) {
            edges.due(false, () -> yard.isIn(0, number));
        }
        edges.edge(Edges.TERMS, "Numbers of ideals are looked at from -300 on.", "-300 is in one, -301 in none");
        GapYard low = low();
        edges.due(true, () -> low.isIn(3, -300));
        edges.due(false, () -> low.isIn(3, -301));
        edges.due(false, () -> low.isIn(3, MIN));
        edges.edge(38, "Returns whether a number is in an ideal.", "from 300 on with the greatest conductor: 599 is not, 600 is");
        GapYard great = of(4, 101);
        idealOf(great, 0, 150);
        great.combine(0, 0, '+');
        edges.due(true, () -> great.isIn(1, 300));
        edges.due(false, () -> great.isIn(1, 301));
        edges.due(false, () -> great.isIn(1, 599));
        edges.due(true, () -> great.isIn(1, 600));
        edges.due(true, () -> great.isIn(1, 601));
    }

    private void needsAndLeast() {
        edges.edge(39, "Returns how many generators an ideal has.", "one, as many as were told, and told ones that are not needed");
        GapYard yard = of(3, 5);
        idealOf(yard, 0, 7);
        idealOf(yard, 0, 0, 1, 2);
        idealOf(yard, 0, 0, 3, 5, 8);
        edges.due(1, () -> yard.needs(0));
        edges.due(3, () -> yard.needs(1));
        edges.due(1, () -> yard.needs(2));
        edges.edge(39, "Returns how many generators an ideal has.", "the most: as many as the multiplicity, of all from 300 on");
        GapYard late = late(300);
        late.canonical(9);
        late.dual(0);
        idealOf(late, 9, 0, 1);
        edges.due(299, () -> late.needs(0));
        edges.due(1, () -> late.needs(1));
        late.combine(0, 2, '+');
        edges.due(0, () -> late.least(3));
        edges.due(300, () -> late.needs(3));
        edges.edge(Edges.TERMS, "Their generators are those elements that are no sum of another element of the ideal and an element of the semigroup.",
                "all numbers make one of each ideal");
        GapYard low = low();
        for (int ideal = 0; ideal < 5; ideal++) {
            int index = ideal;
            edges.due(1, () -> low.needs(index));
        }
        edges.edge(40, "Returns the least number of an ideal.", "-300, -150, 0, 150 and 300");
        edges.due(-300, () -> low.least(3));
        edges.due(-150, () -> low.least(0));
        edges.due(150, () -> low.least(1));
        edges.due(300, () -> high().least(3));
        edges.due(0, () -> late.least(0));
    }

    private void areMoved() {
        edges.edge(41, "Returns whether two ideals, as sets of whole numbers, are one, moved by some whole number.", "by 0, and itself");
        GapYard yard = of(3, 5);
        idealOf(yard, 0, 0, 2);
        idealOf(yard, 0, 2, 0, 3);
        idealOf(yard, 0, -20, -18);
        idealOf(yard, 0, 0, 4);
        idealOf(yard, 0, 0, 2, 4);
        edges.due(true, () -> yard.areMoved(0, 0));
        edges.due(true, () -> yard.areMoved(0, 1));
        edges.edge(41, "Returns whether two ideals, as sets of whole numbers, are one, moved by some whole number.", "down and up");
        edges.due(true, () -> yard.areMoved(0, 2));
        edges.due(true, () -> yard.areMoved(2, 0));
        edges.due(true, () -> lowAndHigh().areMoved(2, 3));
        edges.due(true, () -> lowAndHigh().areMoved(3, 2));
        edges.edge(41, "Returns whether two ideals, as sets of whole numbers, are one, moved by some whole number.",
                "they differ in one number, in the least ones, or not in these");
        edges.due(false, () -> yard.areMoved(0, 3));
        edges.due(false, () -> yard.areMoved(0, 4));
        edges.due(false, () -> yard.areMoved(4, 0));
        edges.edge(41, "Returns whether two ideals, as sets of whole numbers, are one, moved by some whole number.",
                "they differ just below the greatest conductor");
        GapYard great = of(4, 101);
        idealOf(great, 0, -150);
        great.closure(0, 'u');
        idealOf(great, 1, 150);
        idealOf(great, 0, 3);
        edges.due(false, () -> great.areMoved(0, 1));
        edges.due(false, () -> great.areMoved(1, 0));
        edges.due(true, () -> great.areMoved(0, 2));
        edges.edge(41, "as sets of whole numbers", "of unlike semigroups");
        GapYard two = of(3, 5);
        idealOf(two, 0, 11, 18);
        span(two, 3, 5, 7);
        idealOf(two, 1, -1);
        edges.due(true, () -> two.areMoved(0, 1));
        edges.edge(41, "another one, or the same", "the last one with itself");
        edges.due(true, () -> fullOfIdeals().areMoved(7, 7));
    }

    /** Of 4 and 101: ideal 2 is from -300 on, ideal 3 from 300 on. */
    private static GapYard lowAndHigh() {
        GapYard yard = of(4, 101);
        idealOf(yard, 0, -150);
        idealOf(yard, 0, 150);
        yard.combine(0, 0, '+');
        yard.combine(1, 1, '+');
        return yard;
    }
}
