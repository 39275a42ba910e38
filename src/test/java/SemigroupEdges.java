/** Semigroups: promises 4 to 15 and 17 to 22. */
final class SemigroupEdges extends Yards {
    private static final String TEN = "if there are 10";
    private static final String RISING = "the index, from 0, by rising numbers";

    private final Edges edges;

    SemigroupEdges(Edges edges) {
        this.edges = edges;
    }

    void run() {
        semigroup();
        semigroupTooFar();
        semigroupFull();
        fromGaps();
        fromGapsRefused();
        drop();
        dropIdeals();
        has();
        frobeniusAndGenus();
        gap();
        generators();
        apery();
        aperyRefused();
        pseudo();
        wilf();
        closure();
        closureRefused();
        quotient();
        meet();
        without();
        withoutRefused();
        children();
    }

    private void gapsAre(GapYard yard, int semigroup, int... gaps) {
        edges.due(gaps.length, () -> yard.genus(semigroup));
        for (int i = 0; i < gaps.length; i++) {
            int index = i;
            edges.due(gaps[i], () -> yard.gap(semigroup, index));
        }
    }

    private void coinsAre(GapYard yard, int semigroup, int... coins) {
        edges.due(coins.length, () -> yard.generators(semigroup));
        for (int i = 0; i < coins.length; i++) {
            int index = i;
            edges.due(coins[i], () -> yard.generator(semigroup, index));
        }
    }

    // ---- semigroup

    private void semigroup() {
        edges.edge(4, "Adds the semigroup of sums of the numbers of the row.", "1 alone makes all numbers");
        gapsAre(of(1), 0);
        edges.edge(4, "Adds the semigroup of sums of the numbers of the row.", "numbers typed twice, sums typed, any order");
        coinsAre(of(20, 9, 6, 9, 15, 20), 0, 6, 9, 20);
        edges.edge(4, "Adds the semigroup of sums of the numbers of the row.", "the twelfth number counts");
        coinsAre(of(300, 298, 296, 294, 292, 290, 8, 6, 4, 2, 2, 5), 0, 2, 5);
        coinsAre(of(5, 300, 298, 296, 294, 292, 290, 8, 6, 4, 2, 2), 0, 2, 5);
        edges.edge(4, "a number of the row is 0", "alone, first, in the middle, as the twelfth");
        edges.refused(ARGUMENT, () -> typed(0), GapYard::semigroup);
        edges.refused(ARGUMENT, () -> typed(0, 3, 5), GapYard::semigroup);
        edges.refused(ARGUMENT, () -> typed(3, 0, 5), GapYard::semigroup);
        edges.refused(ARGUMENT, () -> typed(3, 5, 3, 5, 3, 5, 3, 5, 3, 5, 3, 0), GapYard::semigroup);
        edges.edge(4, "the row is empty", "never typed, wiped, and taken by another call");
        edges.refused(ARGUMENT, GapYard::new, GapYard::semigroup);
        edges.refused(ARGUMENT, () -> {
            GapYard yard = typed(3, 5);
            yard.wipe();
            return yard;
        }, GapYard::semigroup);
        edges.refused(ARGUMENT, () -> of(3, 5), GapYard::semigroup);
        edges.edge(4, "all have a common divisor above 1", "one number above 1, or several");
        edges.refused(UNSUPPORTED, () -> typed(2), GapYard::semigroup);
        edges.refused(UNSUPPORTED, () -> typed(300), GapYard::semigroup);
        edges.refused(UNSUPPORTED, () -> typed(7, 7, 7), GapYard::semigroup);
        edges.refused(UNSUPPORTED, () -> typed(4, 6), GapYard::semigroup);
        edges.refused(UNSUPPORTED, () -> typed(2, 4, 6, 8, 10, 12, 14, 16, 18, 20, 22, 300), GapYard::semigroup);
        edges.edge(4, "all have a common divisor above 1", "each two of 6, 10 and 15 have one, but not all three");
        edges.due(29, () -> of(6, 10, 15).frobenius(0));
    }

    private void semigroupTooFar() {
        edges.edge(4, "the conductor would be above 300", "300 is taken");
        edges.due(299, () -> of(4, 101).frobenius(0));
        edges.due(299, () -> of(11, 31).frobenius(0));
        edges.due(299, () -> of(5, 76).frobenius(0));
        edges.edge(4, "the conductor would be above 300", "301 is refused");
        edges.refused(UNSUPPORTED, () -> typed(7, 102, 103), GapYard::semigroup);
        edges.refused(UNSUPPORTED, () -> typed(8, 77, 81), GapYard::semigroup);
        edges.refused(UNSUPPORTED, () -> typed(9, 53, 128), GapYard::semigroup);
        edges.edge(4, "the conductor would be above 300", "302 and far more are refused");
        edges.refused(UNSUPPORTED, () -> typed(3, 152), GapYard::semigroup);
        edges.refused(UNSUPPORTED, () -> typed(299, 300), GapYard::semigroup);
        edges.refused(UNSUPPORTED, () -> typed(300, 299, 298, 297, 296, 295, 294, 293, 292, 291, 290, 289), GapYard::semigroup);
        edges.edge(4, "the conductor would be above 300", "the greatest numbers that are typed may be generators");
        edges.due(297, () -> of(2, 299).frobenius(0));
        coinsAre(of(7, 295, 296, 297, 298, 299, 300), 0, 7, 295, 296, 297, 298, 299, 300);
    }

    private void semigroupFull() {
        edges.edge(4, TEN, "the tenth is taken and has number 9, the eleventh is refused");
        GapYard yard = typed(many(9), 3, 7);
        edges.due(9, yard::semigroup);
        edges.refused(STATE, () -> typed(full(), 3, 7), GapYard::semigroup);
        edges.edge(4, TEN, "with one taken away there is room again");
        GapYard again = typed(full(), 3, 7);
        again.drop();
        edges.due(9, again::semigroup);
        edges.due(11, () -> again.frobenius(9));
        edges.edge(4, "if a number of the row is 0, or the row is empty", "it is thrown first, if the rest applies as well");
        edges.refused(ARGUMENT, () -> typed(4, 0, 6), GapYard::semigroup);
        edges.refused(ARGUMENT, () -> typed(0, 299, 300), GapYard::semigroup);
        edges.refused(ARGUMENT, () -> typed(full(), 3, 0, 7), GapYard::semigroup);
        edges.refused(ARGUMENT, () -> full(), GapYard::semigroup);
        edges.edge(4, "if all have a common divisor above 1, or the conductor would be above 300",
                "it is thrown first, if there are 10 as well");
        edges.refused(UNSUPPORTED, () -> typed(full(), 4, 6), GapYard::semigroup);
        edges.refused(UNSUPPORTED, () -> typed(full(), 7, 102, 103), GapYard::semigroup);
    }

    // ---- fromGaps

    private void fromGaps() {
        edges.edge(5, "Adds the semigroup whose gaps are the numbers of the row.", "without any it has all numbers");
        gapsAre(ofGaps(), 0);
        coinsAre(ofGaps(), 0, 1);
        edges.edge(5, "Adds the semigroup whose gaps are the numbers of the row.", "in any order, and typed twice");
        gapsAre(ofGaps(7, 1, 4, 2, 7, 1), 0, 1, 2, 4, 7);
        edges.edge(5, "Adds the semigroup whose gaps are the numbers of the row.", "a full row of twelve gaps");
        gapsAre(ofGaps(12, 11, 10, 9, 8, 7, 6, 5, 4, 3, 2, 1), 0, 1, 2, 3, 4, 5, 6, 7, 8, 9, 10, 11, 12);
        edges.due(23, () -> ofGaps(1, 3, 5, 7, 9, 11, 13, 15, 17, 19, 21, 23).frobenius(0));
        edges.edge(5, "if there are 10", "the tenth is taken and has number 9, the eleventh is refused");
        GapYard yard = typed(many(9), 1, 2);
        edges.due(9, yard::fromGaps);
        edges.refused(STATE, () -> typed(full(), 1, 2), GapYard::fromGaps);
        edges.refused(STATE, () -> full(), GapYard::fromGaps);
    }

    private void fromGapsRefused() {
        edges.edge(5, "0 is among them", "alone, first, last, among twelve");
        edges.refused(ARGUMENT, () -> typed(0), GapYard::fromGaps);
        edges.refused(ARGUMENT, () -> typed(0, 1), GapYard::fromGaps);
        edges.refused(ARGUMENT, () -> typed(1, 2, 0), GapYard::fromGaps);
        edges.refused(ARGUMENT, () -> typed(1, 2, 3, 4, 5, 6, 7, 8, 9, 10, 11, 0), GapYard::fromGaps);
        edges.edge(5, "the others are no semigroup", "1 is an element, so that all should be");
        edges.refused(ARGUMENT, () -> typed(2), GapYard::fromGaps);
        edges.refused(ARGUMENT, () -> typed(300), GapYard::fromGaps);
        edges.edge(5, "the others are no semigroup", "a number twice: 4 is 2 and 2");
        edges.refused(ARGUMENT, () -> typed(1, 4), GapYard::fromGaps);
        edges.edge(5, "the others are no semigroup", "two unlike numbers: 7 is 3 and 4");
        edges.refused(ARGUMENT, () -> typed(1, 2, 7), GapYard::fromGaps);
        edges.edge(5, "the others are no semigroup", "23 may be a gap behind 1 to 11, 24 may not");
        edges.due(23, () -> ofGaps(1, 2, 3, 4, 5, 6, 7, 8, 9, 10, 11, 23).frobenius(0));
        edges.refused(ARGUMENT, () -> typed(1, 2, 3, 4, 5, 6, 7, 8, 9, 10, 11, 24), GapYard::fromGaps);
        edges.edge(5, "the others are no semigroup", "the greatest numbers that are typed");
        edges.refused(ARGUMENT, () -> typed(1, 2, 299), GapYard::fromGaps);
        edges.refused(ARGUMENT, () -> typed(1, 2, 300), GapYard::fromGaps);
        edges.edge(5, "if 0 is among them, or the others are no semigroup", "it is thrown first, if there are 10 as well");
        edges.refused(ARGUMENT, () -> typed(full(), 1, 0), GapYard::fromGaps);
        edges.refused(ARGUMENT, () -> typed(full(), 1, 4), GapYard::fromGaps);
    }

    // ---- drop

    private void drop() {
        edges.edge(6, "Returns how many are left.", "from ten down to none");
        GapYard yard = full();
        for (int left = 9; left >= 0; left--) {
            int due = left;
            edges.due(due, yard::drop);
        }
        edges.edge(6, "if there is none", "a new object, and one whose last has been taken away");
        edges.refused(STATE, GapYard::new, GapYard::drop);
        edges.refused(STATE, () -> {
            GapYard emptied = typed(of(3, 5), 4);
            emptied.drop();
            return emptied;
        }, GapYard::drop);
        edges.edge(6, "Takes the last semigroup away", "the row and the others stay");
        GapYard two = typed(many(2), 8);
        edges.due(1, two::drop);
        edges.due(1, () -> two.frobenius(0));
        edges.due(1, two::wipe);
        edges.edge(6, "Takes the last semigroup away", "its number is free for the next one");
        edges.due(1, () -> span(two, 3, 4));
        edges.due(5, () -> two.frobenius(1));
    }

    private void dropIdeals() {
        edges.edge(6, "with its ideals; the ideals behind these have lower numbers then", "first, between, and last");
        GapYard yard = many(2);
        idealOf(yard, 1, 10);
        idealOf(yard, 0, 20, 21);
        idealOf(yard, 1, 30);
        idealOf(yard, 1, 40);
        idealOf(yard, 0, 50);
        idealOf(yard, 0, 60);
        idealOf(yard, 1, 70);
        idealOf(yard, 0, 80);
        edges.due(1, yard::drop);
        edges.due(20, () -> yard.least(0));
        edges.due(2, () -> yard.needs(0));
        edges.due(50, () -> yard.least(1));
        edges.due(1, () -> yard.needs(1));
        edges.due(60, () -> yard.least(2));
        edges.due(80, () -> yard.least(3));
        edges.due("throws java.lang.IndexOutOfBoundsException", () -> yard.least(4));
        edges.edge(6, "with its ideals; the ideals behind these have lower numbers then", "the next ideal comes behind these");
        edges.due(4, () -> idealOf(yard, 0, 90));
        edges.edge(6, "with its ideals; the ideals behind these have lower numbers then", "they are still of their semigroup");
        edges.due(5, () -> yard.combine(0, 3, '+'));
        edges.edge(6, "with its ideals", "all eight are its own");
        GapYard own = fullOfIdeals();
        edges.due(0, own::drop);
        edges.due("throws java.lang.IllegalStateException", own::dropIdeal);
        span(own, 2, 3);
        edges.due(0, () -> own.canonical(0));
        edges.edge(6, "with its ideals", "none of them is its own");
        GapYard others = fullOfIdeals();
        span(others, 2, 3);
        edges.due(1, others::drop);
        edges.due(7, () -> others.least(7));
        edges.edge(6, "with its ideals", "the next semigroup of the same number has none");
        GapYard again = many(2);
        idealOf(again, 1, 10);
        again.drop();
        span(again, 4, 5);
        edges.due("throws java.lang.IndexOutOfBoundsException", () -> again.needs(0));
    }

    // ---- what they are

    private void has() {
        edges.edge(7, "Returns whether a number is an element.", "0, the Frobenius number, and the conductor");
        GapYard yard = of(4, 101);
        edges.due(true, () -> yard.has(0, 0));
        edges.due(false, () -> yard.has(0, 299));
        edges.due(true, () -> yard.has(0, 300));
        edges.due(true, () -> yard.has(0, 301));
        edges.due(true, () -> yard.has(0, 298));
        edges.due(false, () -> late(300).has(9, 1));
        edges.due(false, () -> late(300).has(9, 299));
        edges.due(true, () -> late(300).has(9, 300));
        edges.edge(7, "the number, any whole one", "below 0 none is, also of all numbers");
        for (int number : new int[] {-1, -4, -300, -301, MIN, MIN + 1}) {
            edges.due(false, () -> yard.has(0, number));
            edges.due(false, () -> all().has(0, number));
        }
        edges.edge(7, "the number, any whole one", "far above all are");
        for (int number : new int[] {302, 600, 601, 602, 1000000, MAX - 1, MAX}) {
            edges.due(true, () -> yard.has(0, number));
            edges.due(true, () -> all().has(0, number));
        }
        edges.due(true, () -> all().has(0, 0));
        edges.due(true, () -> all().has(0, 1));
    }

    private void frobeniusAndGenus() {
        edges.edge(8, "Returns the Frobenius number.", "-1 without gaps, the first, and the last that can be");
        edges.due(-1, () -> all().frobenius(0));
        edges.due(1, () -> of(2, 3).frobenius(0));
        edges.due(299, () -> of(4, 101).frobenius(0));
        edges.due(299, () -> late(300).frobenius(9));
        edges.edge(9, "Returns the genus.", "none, one, and the most that can be");
        edges.due(0, () -> all().genus(0));
        edges.due(1, () -> of(2, 3).genus(0));
        edges.due(150, () -> of(4, 101).genus(0));
        edges.due(299, () -> late(300).genus(9));
    }

    private void gap() {
        edges.edge(10, "Returns a gap.", "each one, by rising numbers");
        gapsAre(of(5, 7, 9), 0, 1, 2, 3, 4, 6, 8, 11, 13);
        edges.edge(10, RISING, "0 is the first, the genus less 1 is the last");
        edges.due(1, () -> of(2, 3).gap(0, 0));
        edges.due(1, () -> late(300).gap(9, 0));
        edges.due(299, () -> late(300).gap(9, 298));
        edges.due(299, () -> of(4, 101).gap(0, 149));
        edges.edge(10, "if there is no such one", "the genus is the first index that is refused");
        edges.refused(ELEMENT, () -> of(5, 7, 9), yard -> yard.gap(0, 8));
        edges.refused(ELEMENT, () -> late(300), yard -> yard.gap(9, 299));
        edges.refused(ELEMENT, () -> of(2, 3), yard -> yard.gap(0, 1));
        edges.edge(10, "if there is no such one", "without gaps there is none at all");
        edges.refused(ELEMENT, () -> all(), yard -> yard.gap(0, 0));
        edges.edge(10, "if there is no such one", "below 0, and the greatest index");
        for (int index : new int[] {-1, MIN, MAX}) {
            edges.refused(ELEMENT, () -> of(5, 7, 9), yard -> yard.gap(0, index));
        }
    }

    private void generators() {
        edges.edge(11, "Returns how many generators there are.", "one, and the most that can be");
        edges.due(1, () -> all().generators(0));
        edges.due(300, () -> late(300).generators(9));
        edges.edge(12, "Returns a generator.", "the only one, and each of three");
        coinsAre(all(), 0, 1);
        coinsAre(of(9, 20, 6), 0, 6, 9, 20);
        edges.edge(12, RISING, "0 is the least one, the last one may be above 300");
        edges.due(300, () -> late(300).generator(9, 0));
        edges.due(301, () -> late(300).generator(9, 1));
        edges.due(599, () -> late(300).generator(9, 299));
        GapYard two = of(2, 299);
        two.without(0, 1);
        coinsAre(two, 1, 2, 301);
        GapYard three = of(4, 101);
        three.closure(0, 'u');
        coinsAre(three, 1, 4, 101, 299);
        edges.edge(12, "if there is no such one", "how many there are is the first index that is refused");
        edges.refused(ELEMENT, () -> all(), yard -> yard.generator(0, 1));
        edges.refused(ELEMENT, () -> of(5, 7, 9), yard -> yard.generator(0, 3));
        edges.refused(ELEMENT, () -> late(300), yard -> yard.generator(9, 300));
        edges.edge(12, "if there is no such one", "below 0, and the greatest index");
        for (int index : new int[] {-1, MIN, MAX}) {
            edges.refused(ELEMENT, () -> of(5, 7, 9), yard -> yard.generator(0, index));
        }
    }

    // ---- Apery rows and what is near

    private void apery() {
        edges.edge(13, "Returns a number of an Apery row.", "of the least element, for each index");
        int[] due = {0, 101, 202, 303};
        for (int i = 0; i < due.length; i++) {
            int index = i;
            edges.due(due[i], () -> of(4, 101).apery(0, 4, index));
        }
        edges.edge(13, "Returns a number of an Apery row.", "of 300, the greatest element that is taken");
        edges.due(0, () -> late(300).apery(9, 300, 0));
        edges.due(301, () -> late(300).apery(9, 300, 1));
        edges.due(599, () -> late(300).apery(9, 300, 299));
        edges.due(299, () -> of(3, 5).apery(0, 300, 299));
        edges.due(307, () -> of(3, 5).apery(0, 300, 7));
        edges.edge(13, "Returns a number of an Apery row.", "of 1, where all are elements");
        edges.due(0, () -> all().apery(0, 1, 0));
        edges.edge(13, "Returns a number of an Apery row.", "of an element that is no generator");
        edges.due(9, () -> of(3, 5).apery(0, 8, 1));
        edges.due(15, () -> of(3, 5).apery(0, 8, 7));
        edges.due(6, () -> all().apery(0, 9, 6));
    }

    private void aperyRefused() {
        edges.edge(13, "the element is 0, none", "0, though it is an element");
        edges.refused(ARGUMENT, () -> of(3, 5), yard -> yard.apery(0, 0, 0));
        edges.refused(ARGUMENT, () -> all(), yard -> yard.apery(0, 0, 0));
        edges.edge(13, "the element is 0, none", "a gap, the first and the last");
        edges.refused(ARGUMENT, () -> of(3, 5), yard -> yard.apery(0, 1, 0));
        edges.refused(ARGUMENT, () -> of(3, 5), yard -> yard.apery(0, 7, 0));
        edges.refused(ARGUMENT, () -> late(300), yard -> yard.apery(9, 299, 0));
        edges.edge(13, "the element is 0, none", "below 0");
        edges.refused(ARGUMENT, () -> of(3, 5), yard -> yard.apery(0, -1, 0));
        edges.refused(ARGUMENT, () -> all(), yard -> yard.apery(0, -3, 0));
        edges.refused(ARGUMENT, () -> all(), yard -> yard.apery(0, MIN, 0));
        edges.edge(13, "above 300", "300 is taken, 301 is refused, though it is an element");
        edges.due(0, () -> all().apery(0, 300, 0));
        edges.refused(ARGUMENT, () -> all(), yard -> yard.apery(0, 301, 0));
        edges.refused(ARGUMENT, () -> all(), yard -> yard.apery(0, MAX, 0));
        edges.edge(13, "if there is no such index", "the element is the first that is refused");
        edges.due(5, () -> of(3, 5).apery(0, 3, 2));
        edges.refused(ELEMENT, () -> of(3, 5), yard -> yard.apery(0, 3, 3));
        edges.refused(ELEMENT, () -> of(3, 5), yard -> yard.apery(0, 300, 300));
        edges.refused(ELEMENT, () -> all(), yard -> yard.apery(0, 1, 1));
        edges.edge(13, "if there is no such index", "below 0, and the greatest index");
        for (int index : new int[] {-1, MIN, MAX}) {
            edges.refused(ELEMENT, () -> of(3, 5), yard -> yard.apery(0, 3, index));
        }
        edges.edge(13, "if the element is 0, none, or above 300", "it is thrown first, if there is no such index as well");
        for (int element : new int[] {0, 7, -1, 301}) {
            edges.refused(ARGUMENT, () -> of(3, 5), yard -> yard.apery(0, element, -1));
            edges.refused(ARGUMENT, () -> of(3, 5), yard -> yard.apery(0, element, 302));
        }
    }

    private void pseudo() {
        edges.edge(14, "Returns the type.", "1 for all numbers, by -1; the most that can be");
        edges.due(1, () -> all().typeOf(0));
        edges.due(1, () -> of(2, 3).typeOf(0));
        edges.due(299, () -> late(300).typeOf(9));
        edges.edge(15, "Returns a pseudo-Frobenius number.", "-1 is the only one for all numbers");
        edges.due(-1, () -> all().pseudo(0, 0));
        edges.refused(ELEMENT, () -> all(), yard -> yard.pseudo(0, 1));
        edges.edge(15, RISING, "0 is the first, the type less 1 is the last");
        edges.due(7, () -> of(5, 6, 13).pseudo(0, 0));
        edges.due(14, () -> of(5, 6, 13).pseudo(0, 1));
        edges.due(1, () -> late(300).pseudo(9, 0));
        edges.due(299, () -> late(300).pseudo(9, 298));
        edges.due(299, () -> of(4, 101).pseudo(0, 0));
        edges.edge(15, "if there is no such one", "the type is the first index that is refused");
        edges.refused(ELEMENT, () -> of(5, 6, 13), yard -> yard.pseudo(0, 2));
        edges.refused(ELEMENT, () -> late(300), yard -> yard.pseudo(9, 299));
        edges.refused(ELEMENT, () -> of(4, 101), yard -> yard.pseudo(0, 1));
        edges.edge(15, "if there is no such one", "below 0, and the greatest index");
        for (int index : new int[] {-1, MIN, MAX}) {
            edges.refused(ELEMENT, () -> of(5, 6, 13), yard -> yard.pseudo(0, index));
            edges.refused(ELEMENT, () -> all(), yard -> yard.pseudo(0, index));
        }
    }

    private void wilf() {
        edges.edge(17, "the left ones times the generators, less the conductor", "without left ones and with conductor 0");
        edges.due(0, () -> all().wilf(0));
        edges.edge(17, "the left ones times the generators, less the conductor", "the greatest conductor");
        edges.due(150 * 2 - 300, () -> of(4, 101).wilf(0));
        edges.due(300 - 300, () -> late(300).wilf(9));
        edges.edge(17, "the left ones times the generators, less the conductor", "above 0");
        edges.due(22 * 3 - 44, () -> of(6, 9, 20).wilf(0));
    }

    // ---- closures, quotients, meets

    private void closure() {
        edges.edge(18, "'r' the least Arf one that has all its elements", "one that is Arf stays what it is");
        GapYard yard = of(2, 299);
        edges.due(1, () -> yard.closure(0, 'r'));
        coinsAre(yard, 1, 2, 299);
        edges.edge(18, "'r' the least Arf one that has all its elements", "of 5 and 7: 7 and 7 less 5 is 9, and so on");
        GapYard five = of(5, 7);
        five.closure(0, 'r');
        gapsAre(five, 1, 1, 2, 3, 4, 6, 8);
        edges.edge(18, "'r' the least Arf one that has all its elements", "all numbers, and the greatest conductor");
        GapYard all = all();
        edges.due(1, () -> all.closure(0, 'r'));
        gapsAre(all, 1);
        GapYard great = of(4, 101);
        great.closure(0, 'r');
        edges.due(99, () -> great.frobenius(1));
        edges.due(75, () -> great.genus(1));
        edges.edge(18, "'b' its blow-up", "all numbers, 2 and 3, and all from a number on become all numbers");
        edges.due(2, () -> all.closure(0, 'b'));
        gapsAre(all, 2);
        GapYard two = of(2, 3);
        two.closure(0, 'b');
        gapsAre(two, 1);
        GapYard late = late(299);
        edges.due(9, () -> late.closure(8, 'b'));
        gapsAre(late, 9);
        edges.edge(18, "'b' its blow-up", "the greatest conductor");
        great.closure(0, 'b');
        coinsAre(great, 2, 4, 97);
        edges.edge(18, "'u' that with the Frobenius number, too", "the only gap, and the greatest one");
        two.closure(0, 'u');
        gapsAre(two, 2);
        great.closure(0, 'u');
        edges.due(295, () -> great.frobenius(3));
        edges.due(149, () -> great.genus(3));
        edges.edge(Edges.TERMS, "The blow-up of a semigroup is the union of the differences of sums", "of 6, 9 and 20");
        GapYard three = of(6, 9, 20);
        three.closure(0, 'b');
        coinsAre(three, 1, 3, 14);
        edges.edge(Edges.TERMS, "of n of them, and of n of them, for all n", "one of each is not enough: 1 is there by two");
        GapYard four = of(4, 5, 11);
        four.closure(0, 'b');
        gapsAre(four, 1);
    }

    private void closureRefused() {
        edges.edge(18, "if there is no such kind", "kinds of isKind and of combine, great letters, the ends of char");
        for (char kind : new char[] {'s', 'p', 'a', 'm', 'o', 't', 'c', 'R', 'B', 'U', '+', 0, 'a' - 1, 'q', 'v', (char) 65535}) {
            edges.refused(ARGUMENT, () -> of(3, 5), yard -> yard.closure(0, kind));
        }
        edges.edge(18, "if it has all numbers, for 'u'", "one gap is enough");
        edges.refused(UNSUPPORTED, () -> all(), yard -> yard.closure(0, 'u'));
        edges.due(1, () -> of(2, 3).closure(0, 'u'));
        edges.edge(18, "if there are 10", "the tenth is taken and has number 9, the eleventh is refused");
        for (char kind : new char[] {'r', 'b', 'u'}) {
            edges.due(9, () -> many(9).closure(8, kind));
            edges.refused(STATE, () -> full(), yard -> yard.closure(9, kind));
        }
        edges.edge(18, "if there is no such kind", "it is thrown first, if there are 10 as well");
        edges.refused(ARGUMENT, () -> full(), yard -> yard.closure(9, 'z'));
        edges.edge(18, "if it has all numbers, for 'u'", "it is thrown first, if there are 10 as well");
        GapYard full = full();
        full.drop();
        span(full, 1);
        edges.due("throws java.lang.UnsupportedOperationException", () -> full.closure(9, 'u'));
        edges.due("throws java.lang.IllegalStateException", () -> full.closure(9, 'r'));
    }

    private void quotient() {
        edges.edge(19, "the number, 1 to 300", "1 leaves what it is, 0 is refused");
        GapYard yard = of(4, 101);
        edges.due(1, () -> yard.quotient(0, 1));
        coinsAre(yard, 1, 4, 101);
        edges.refused(ARGUMENT, () -> of(4, 101), one -> one.quotient(0, 0));
        edges.edge(19, "the number, 1 to 300", "300 is taken, 301 is refused");
        edges.due(2, () -> yard.quotient(0, 300));
        gapsAre(yard, 2);
        edges.refused(ARGUMENT, () -> of(4, 101), one -> one.quotient(0, 301));
        edges.edge(19, "if it is out of range", "below 0, and the greatest number");
        for (int number : new int[] {-1, MIN, MAX}) {
            edges.refused(ARGUMENT, () -> of(3, 5), one -> one.quotient(0, number));
        }
        edges.edge(19, "all numbers whose products with a number are elements", "the Frobenius number, and 1 more");
        edges.due(3, () -> yard.quotient(0, 299));
        gapsAre(yard, 3, 1);
        edges.due(4, () -> yard.quotient(0, 2));
        coinsAre(yard, 4, 2, 101);
        GapYard late = late(299);
        edges.due(9, () -> late.quotient(8, 298));
        gapsAre(late, 9, 1);
        late.drop();
        edges.due(9, () -> late.quotient(8, 299));
        gapsAre(late, 9);
        edges.edge(19, "if there are 10", "the tenth is taken and has number 9, the eleventh is refused");
        edges.due(9, () -> many(9).quotient(8, 2));
        edges.refused(STATE, () -> full(), one -> one.quotient(9, 2));
        edges.edge(19, "if it is out of range", "it is thrown first, if there are 10 as well");
        edges.refused(ARGUMENT, () -> full(), one -> one.quotient(9, 0));
        edges.refused(ARGUMENT, () -> full(), one -> one.quotient(9, 301));
    }

    private void meet() {
        edges.edge(20, "Adds what two semigroups have in common, or all sums of both.", "with all numbers");
        GapYard yard = of(4, 101);
        span(yard, 1);
        edges.due(2, () -> yard.meet(0, 1, false));
        coinsAre(yard, 2, 4, 101);
        edges.due(3, () -> yard.meet(1, 0, true));
        gapsAre(yard, 3);
        edges.edge(20, "Adds what two semigroups have in common, or all sums of both.", "of semigroups by gaps alone");
        GapYard gaps = ofGaps(1, 2, 4, 7);
        gaps(gaps, 1, 2, 3);
        edges.due(2, () -> gaps.meet(0, 1, true));
        gapsAre(gaps, 2, 1, 2);
        edges.due(3, () -> gaps.meet(0, 1, false));
        gapsAre(gaps, 3, 1, 2, 3, 4, 7);
        edges.edge(20, "another one, or the same", "with itself it stays what it is");
        edges.due(4, () -> yard.meet(0, 0, false));
        coinsAre(yard, 4, 4, 101);
        edges.due(5, () -> yard.meet(0, 0, true));
        coinsAre(yard, 5, 4, 101);
        edges.edge(20, "Adds what two semigroups have in common, or all sums of both.", "two with the greatest conductor");
        span(yard, 11, 31);
        edges.due(7, () -> yard.meet(0, 6, false));
        edges.due(299, () -> yard.frobenius(7));
        edges.due(8, () -> yard.meet(0, 6, true));
        // 31 is five of 4 and 11.
        coinsAre(yard, 8, 4, 11);
        edges.edge(20, "if there are 10", "the tenth is taken and has number 9, the eleventh is refused");
        for (boolean areSums : new boolean[] {false, true}) {
            edges.due(9, () -> many(9).meet(8, 0, areSums));
            edges.refused(STATE, () -> full(), one -> one.meet(9, 0, areSums));
            edges.refused(STATE, () -> full(), one -> one.meet(9, 9, areSums));
        }
    }

    // ---- the tree

    private void without() {
        edges.edge(21, "the index of the generator, from 0", "the least one and the last one");
        GapYard yard = of(3, 5);
        edges.due(1, () -> yard.without(0, 0));
        gapsAre(yard, 1, 1, 2, 3, 4, 7);
        edges.due(2, () -> yard.without(0, 1));
        gapsAre(yard, 2, 1, 2, 4, 5, 7);
        edges.edge(21, "Adds the semigroup without a generator.", "1, the only one of all numbers");
        GapYard all = all();
        edges.due(1, () -> all.without(0, 0));
        coinsAre(all, 1, 2, 3);
        edges.edge(21, "if there is no such one", "how many generators there are is the first index that is refused");
        edges.refused(ELEMENT, () -> of(3, 5), one -> one.without(0, 2));
        edges.refused(ELEMENT, () -> all(), one -> one.without(0, 1));
        edges.edge(21, "if there is no such one", "below 0, and the greatest index");
        for (int index : new int[] {-1, MIN, MAX}) {
            edges.refused(ELEMENT, () -> of(3, 5), one -> one.without(0, index));
        }
        edges.edge(21, "if there are 10", "the tenth is taken and has number 9, the eleventh is refused");
        edges.due(9, () -> many(9).without(8, 0));
        edges.refused(STATE, () -> full(), one -> one.without(9, 0));
        edges.edge(21, "if there is no such one", "it is thrown first, if there are 10 as well");
        edges.refused(ELEMENT, () -> full(), one -> one.without(9, 2));
        edges.refused(ELEMENT, () -> full(), one -> one.without(9, -1));
    }

    /** Of 7 and 295 to 300 the generators are these. */
    private static GapYard seven() {
        return of(7, 295, 296, 297, 298, 299, 300);
    }

    private void withoutRefused() {
        edges.edge(21, "if the conductor would be above 300", "without 299 it is 300, without 300 it would be 301");
        GapYard yard = seven();
        edges.due(1, () -> yard.without(0, 5));
        edges.due(299, () -> yard.frobenius(1));
        edges.refused(UNSUPPORTED, () -> seven(), one -> one.without(0, 6));
        edges.due(9, () -> late(299).without(8, 0));
        edges.refused(UNSUPPORTED, () -> late(295), one -> one.without(4, 5));
        edges.edge(21, "if the conductor would be above 300", "a generator above 300");
        GapYard two = of(2, 299);
        edges.due(1, () -> two.without(0, 1));
        edges.due(299, () -> two.frobenius(1));
        edges.due("throws java.lang.UnsupportedOperationException", () -> two.without(1, 1));
        edges.refused(UNSUPPORTED, () -> late(295), one -> one.without(4, 294));
        edges.edge(21, "if the conductor would be above 300", "a generator below a conductor of 300 may go");
        edges.due(1, () -> of(4, 101).without(0, 0));
        edges.due(1, () -> of(4, 101).without(0, 1));
        GapYard great = of(4, 101);
        great.without(0, 1);
        edges.due(299, () -> great.frobenius(1));
        edges.due(151, () -> great.genus(1));
        edges.edge(21, "if the conductor would be above 300", "it is thrown first, if there are 10 as well");
        edges.refused(UNSUPPORTED, () -> late(300), one -> one.without(9, 0));
        edges.refused(UNSUPPORTED, () -> late(300), one -> one.without(9, 299));
    }

    private void children() {
        edges.edge(22, "generators above the Frobenius number", "1 of all numbers, whose Frobenius number is -1");
        edges.due(1, () -> all().children(0));
        edges.edge(22, "generators above the Frobenius number", "none, all, and just the last one");
        edges.due(0, () -> of(3, 5).children(0));
        edges.due(0, () -> of(4, 101).children(0));
        edges.due(3, () -> of(3, 4, 5).children(0));
        edges.due(300, () -> late(300).children(9));
        edges.due(1, () -> of(2, 299).children(0));
        edges.edge(22, "generators above the Frobenius number", "just 1 above it");
        // The Frobenius number is 7, and 8 is no sum of the others.
        edges.due(1, () -> ofGaps(1, 2, 3, 5, 6, 7).generator(0, 0) == 4 ? 1 : 0);
        edges.due(3, () -> ofGaps(1, 2, 3, 5, 6, 7).children(0));
    }
}
