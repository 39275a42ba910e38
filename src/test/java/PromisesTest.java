/** Each promise of the document: ordinary inputs, the edges that it names, and wrong inputs. */
public final class PromisesTest extends Yards {
    private static final Check CHECK = new Check();

    public static void main(String[] args) {
        promises1To3();
        promise4();
        promise5();
        promise6();
        promises7To9();
        promises10To12();
        promise13();
        promises14And15();
        promise16();
        promise16Arf();
        promise16Many();
        promise17();
        promise18();
        promise19();
        promise20();
        promise21();
        promises22And23();
        promise24();
        promises25And26();
        promise27();
        promise28();
        promise29();
        promise30();
        promises31And32();
        promise33();
        promise34();
        promise35();
        promise35Ranges();
        promise36();
        promises37To40();
        promise41();
        promise42();
        promises43And44();
        promise45();
        promises46And47();
        promise48();
        promise49();
        promise50();
        promises51To53();
        promise54();
        CHECK.end();
    }

    // ---- helpers

    /** No semigroup has such a number. */
    private static final int[] WRONG = {-1, 1, 10, 11, Integer.MIN_VALUE, Integer.MAX_VALUE};

    private static void gapsAre(GapYard yard, int semigroup, int... gaps) {
        CHECK.due(gaps.length, () -> yard.genus(semigroup));
        for (int i = 0; i < gaps.length; i++) {
            int index = i;
            CHECK.due(gaps[i], () -> yard.gap(semigroup, index));
        }
    }

    private static void coinsAre(GapYard yard, int semigroup, int... coins) {
        CHECK.due(coins.length, () -> yard.generators(semigroup));
        for (int i = 0; i < coins.length; i++) {
            int index = i;
            CHECK.due(coins[i], () -> yard.generator(semigroup, index));
        }
    }

    // ---- the row

    private static void promises1To3() {
        CHECK.part("promise 1");
        GapYard yard = new GapYard();
        CHECK.due(7L, yard::checksum);
        CHECK.due(0, yard::wipe);
        CHECK.fails(yard, INDEX, () -> yard.genus(0));
        CHECK.fails(yard, INDEX, () -> yard.least(0));
        CHECK.fails(yard, STATE, yard::drop);
        CHECK.part("promise 2");
        for (int number : FAR) {
            CHECK.fails(yard, ARGUMENT, () -> yard.type(number));
        }
        CHECK.due(1, () -> yard.type(0));
        CHECK.due(2, () -> yard.type(300));
        for (int i = 3; i <= 12; i++) {
            int count = i;
            CHECK.due(count, () -> yard.type(7));
        }
        CHECK.fails(yard, STATE, () -> yard.type(7));
        CHECK.fails(yard, ARGUMENT, () -> yard.type(301));
        CHECK.part("promise 3");
        CHECK.due(12, yard::wipe);
        CHECK.due(0, yard::wipe);
        CHECK.due(1, () -> yard.type(5));
        CHECK.due(1, yard::wipe);
    }

    // ---- semigroups

    private static void promise4() {
        CHECK.part("promise 4");
        GapYard yard = new GapYard();
        CHECK.fails(yard, ARGUMENT, yard::semigroup);
        typed(yard, 4, 6);
        CHECK.fails(yard, UNSUPPORTED, yard::semigroup);
        yard.type(0);
        CHECK.fails(yard, ARGUMENT, yard::semigroup);
        yard.wipe();
        typed(yard, 9, 6, 20, 9, 12);
        CHECK.due(0, yard::semigroup);
        CHECK.due(0, yard::wipe);
        coinsAre(yard, 0, 6, 9, 20);
        CHECK.due(1, () -> span(yard, 1));
        coinsAre(yard, 1, 1);
        // The conductors of 11 and 31, and of 4 and 101, are 300; that of 4 and 103 is 306.
        CHECK.due(2, () -> span(yard, 11, 31));
        CHECK.due(299, () -> yard.frobenius(2));
        typed(yard, 2, 300);
        CHECK.fails(yard, UNSUPPORTED, yard::semigroup);
        yard.wipe();
        typed(yard, 4, 102);
        CHECK.fails(yard, UNSUPPORTED, yard::semigroup);
        yard.wipe();
        typed(yard, 4, 101);
        CHECK.due(3, yard::semigroup);
        CHECK.due(299, () -> yard.frobenius(3));
        typed(yard, 4, 103);
        CHECK.fails(yard, UNSUPPORTED, yard::semigroup);
        yard.wipe();
        typed(yard, 300, 299);
        CHECK.fails(yard, UNSUPPORTED, yard::semigroup);
        yard.wipe();
        CHECK.due(4, () -> span(yard, 2, 299));
        CHECK.due(297, () -> yard.frobenius(4));
        GapYard full = full();
        typed(full, 3, 7);
        CHECK.fails(full, STATE, full::semigroup);
        full.type(0);
        CHECK.fails(full, ARGUMENT, full::semigroup);
        full.wipe();
        full.type(3);
        CHECK.fails(full, UNSUPPORTED, full::semigroup);
        full.wipe();
        CHECK.fails(full, ARGUMENT, full::semigroup);
    }

    private static void promise5() {
        CHECK.part("promise 5");
        GapYard yard = new GapYard();
        CHECK.due(0, () -> gaps(yard, 7, 1, 4, 2));
        coinsAre(yard, 0, 3, 5);
        CHECK.due(0, yard::wipe);
        CHECK.due(1, () -> gaps(yard));
        coinsAre(yard, 1, 1);
        CHECK.due(2, () -> gaps(yard, 1, 1, 2));
        gapsAre(yard, 2, 1, 2);
        typed(yard, 1, 2, 0);
        CHECK.fails(yard, ARGUMENT, yard::fromGaps);
        yard.wipe();
        typed(yard, 1, 4);
        CHECK.fails(yard, ARGUMENT, yard::fromGaps);
        yard.wipe();
        typed(yard, 1, 300);
        CHECK.fails(yard, ARGUMENT, yard::fromGaps);
        yard.wipe();
        CHECK.due(3, () -> gaps(yard, 1, 3, 5, 7, 9, 11, 13, 15, 17, 19, 21, 23));
        CHECK.due(23, () -> yard.frobenius(3));
        GapYard full = full();
        full.type(1);
        CHECK.fails(full, STATE, full::fromGaps);
        full.type(4);
        CHECK.fails(full, ARGUMENT, full::fromGaps);
        full.wipe();
        CHECK.fails(full, STATE, full::fromGaps);
    }

    private static void promise6() {
        CHECK.part("promise 6");
        GapYard yard = new GapYard();
        CHECK.fails(yard, STATE, yard::drop);
        span(yard, 3, 5);
        span(yard, 4, 5);
        idealOf(yard, 0, -7);
        idealOf(yard, 1, 1, 2);
        idealOf(yard, 0, 9, 10);
        idealOf(yard, 1, 3);
        idealOf(yard, 0, 100);
        yard.type(8);
        CHECK.due(1, yard::drop);
        CHECK.due(1, yard::wipe);
        CHECK.due(-7, () -> yard.least(0));
        CHECK.due(9, () -> yard.least(1));
        CHECK.due(2, () -> yard.needs(1));
        CHECK.due(100, () -> yard.least(2));
        CHECK.fails(yard, INDEX, () -> yard.least(3));
        CHECK.fails(yard, INDEX, () -> yard.genus(1));
        CHECK.due(7, () -> yard.frobenius(0));
        CHECK.due(3, () -> yard.canonical(0));
        CHECK.due(1, () -> span(yard, 2, 3));
        CHECK.due(1, yard::drop);
        CHECK.due(0, yard::drop);
        CHECK.fails(yard, INDEX, () -> yard.least(0));
        CHECK.fails(yard, STATE, yard::dropIdeal);
        CHECK.fails(yard, STATE, yard::drop);
    }

    private static void promises7To9() {
        GapYard yard = of(6, 9, 20);
        CHECK.part("promise 7");
        CHECK.due(true, () -> yard.has(0, 0));
        CHECK.due(false, () -> yard.has(0, 1));
        CHECK.due(true, () -> yard.has(0, 6));
        CHECK.due(false, () -> yard.has(0, 43));
        CHECK.due(true, () -> yard.has(0, 44));
        CHECK.due(false, () -> yard.has(0, -6));
        CHECK.due(false, () -> yard.has(0, Integer.MIN_VALUE));
        CHECK.due(true, () -> yard.has(0, Integer.MAX_VALUE));
        CHECK.due(true, () -> yard.has(0, 301));
        CHECK.due(false, () -> all().has(0, -1));
        CHECK.due(true, () -> all().has(0, 0));
        CHECK.part("promise 8");
        CHECK.due(43, () -> yard.frobenius(0));
        CHECK.due(-1, () -> all().frobenius(0));
        CHECK.due(1, () -> of(2, 3).frobenius(0));
        CHECK.part("promise 9");
        CHECK.due(22, () -> yard.genus(0));
        CHECK.due(0, () -> all().genus(0));
        CHECK.due(150, () -> of(4, 101).genus(0));
        for (int wrong : WRONG) {
            CHECK.fails(yard, INDEX, () -> yard.has(wrong, 0));
            CHECK.fails(yard, INDEX, () -> yard.frobenius(wrong));
            CHECK.fails(yard, INDEX, () -> yard.genus(wrong));
        }
    }

    private static void promises10To12() {
        GapYard yard = of(5, 7, 9);
        CHECK.part("promise 10");
        gapsAre(yard, 0, 1, 2, 3, 4, 6, 8, 11, 13);
        CHECK.fails(yard, ELEMENT, () -> yard.gap(0, 8));
        CHECK.fails(yard, ELEMENT, () -> yard.gap(0, -1));
        CHECK.fails(yard, ELEMENT, () -> all().gap(0, 0));
        CHECK.part("promises 11 and 12");
        coinsAre(yard, 0, 5, 7, 9);
        CHECK.fails(yard, ELEMENT, () -> yard.generator(0, 3));
        CHECK.fails(yard, ELEMENT, () -> yard.generator(0, -1));
        GapYard all = all();
        coinsAre(all, 0, 1);
        CHECK.fails(all, ELEMENT, () -> all.generator(0, 1));
        GapYard great = of(4, 101);
        great.closure(0, 'u');
        coinsAre(great, 1, 4, 101, 299);
        // Taking out 101 from 4 and 101 leaves odd generators, and one above 300.
        GapYard two = of(2, 299);
        two.without(0, 1);
        coinsAre(two, 1, 2, 301);
        for (int wrong : WRONG) {
            CHECK.fails(yard, INDEX, () -> yard.gap(wrong, 99));
            CHECK.fails(yard, INDEX, () -> yard.generators(wrong));
            CHECK.fails(yard, INDEX, () -> yard.generator(wrong, 99));
        }
    }

    private static void promise13() {
        CHECK.part("promise 13");
        GapYard yard = of(3, 5);
        int[] three = {0, 10, 5};
        int[] five = {0, 6, 12, 3, 9};
        int[] eight = {0, 9, 10, 3, 12, 5, 6, 15};
        for (int i = 0; i < 8; i++) {
            int index = i;
            if (i < 3) {
                CHECK.due(three[i], () -> yard.apery(0, 3, index));
            }
            if (i < 5) {
                CHECK.due(five[i], () -> yard.apery(0, 5, index));
            }
            CHECK.due(eight[i], () -> yard.apery(0, 8, index));
        }
        CHECK.due(299, () -> yard.apery(0, 300, 299));
        CHECK.due(307, () -> yard.apery(0, 300, 7));
        CHECK.due(0, () -> all().apery(0, 1, 0));
        CHECK.due(6, () -> all().apery(0, 9, 6));
        for (int element : new int[] {0, 1, 7, -3, 301, Integer.MAX_VALUE, Integer.MIN_VALUE}) {
            CHECK.fails(yard, ARGUMENT, () -> yard.apery(0, element, 0));
            CHECK.fails(yard, ARGUMENT, () -> yard.apery(0, element, -1));
        }
        CHECK.fails(yard, ELEMENT, () -> yard.apery(0, 3, 3));
        CHECK.fails(yard, ELEMENT, () -> yard.apery(0, 3, -1));
        CHECK.fails(yard, ELEMENT, () -> yard.apery(0, 300, 300));
        for (int wrong : WRONG) {
            CHECK.fails(yard, INDEX, () -> yard.apery(wrong, 0, -1));
        }
    }

    private static void promises14And15() {
        GapYard yard = of(5, 6, 13);
        CHECK.part("promises 14 and 15");
        // Gaps 1 2 3 4 7 8 9 14: only 7 and 14 reach elements with all of 5, 6 and 13.
        CHECK.due(2, () -> yard.typeOf(0));
        CHECK.due(7, () -> yard.pseudo(0, 0));
        CHECK.due(14, () -> yard.pseudo(0, 1));
        CHECK.fails(yard, ELEMENT, () -> yard.pseudo(0, 2));
        CHECK.fails(yard, ELEMENT, () -> yard.pseudo(0, -1));
        CHECK.due(1, () -> of(6, 9, 20).typeOf(0));
        CHECK.due(43, () -> of(6, 9, 20).pseudo(0, 0));
        CHECK.due(5, () -> gaps(yard, 1, 2, 3, 4, 5) == 1 ? yard.typeOf(1) : -9);
        CHECK.due(1, () -> yard.pseudo(1, 0));
        GapYard all = all();
        CHECK.due(1, () -> all.typeOf(0));
        CHECK.due(-1, () -> all.pseudo(0, 0));
        CHECK.fails(all, ELEMENT, () -> all.pseudo(0, 1));
        for (int wrong : new int[] {-1, 2, 10, Integer.MAX_VALUE}) {
            CHECK.fails(yard, INDEX, () -> yard.typeOf(wrong));
            CHECK.fails(yard, INDEX, () -> yard.pseudo(wrong, 99));
        }
    }

    private static void kindsAre(GapYard yard, int semigroup, String kinds) {
        for (char kind : "spamrotc".toCharArray()) {
            CHECK.due(kinds.indexOf(kind) >= 0, () -> yard.isKind(semigroup, kind));
        }
    }

    private static void promise16() {
        CHECK.part("promise 16");
        kindsAre(all(), 0, "samrotc");
        kindsAre(of(2, 3), 0, "samrotc");
        kindsAre(of(3, 5), 0, "satc");
        kindsAre(of(6, 9, 20), 0, "satc");
        kindsAre(of(4, 6, 9), 0, "satc");
        // Two relations, but both of them for 30.
        kindsAre(of(6, 10, 15), 0, "satc");
        kindsAre(of(3, 4, 5), 0, "pamro");
        kindsAre(of(3, 5, 7), 0, "pamr");
        kindsAre(of(2, 9), 0, "samrtc");
        kindsAre(of(10, 14, 15), 0, "satc");
        // 15 is 3 times 5, so that 21 comes too late to be telescopic; but there are three relations.
        kindsAre(of(10, 14, 15, 21), 0, "sac");
        // Symmetric without being a complete intersection.
        kindsAre(of(5, 6, 7, 8), 0, "sa");
        kindsAre(of(4, 5, 7), 0, "pa");
        kindsAre(of(5, 6, 7), 0, "");
        GapYard yard = of(3, 5);
        for (char kind : new char[] {'z', 0, 'S', ' ', 'u', (char) 255, (char) 65535}) {
            CHECK.fails(yard, ARGUMENT, () -> yard.isKind(0, kind));
        }
        for (int wrong : WRONG) {
            CHECK.fails(yard, INDEX, () -> yard.isKind(wrong, 's'));
            CHECK.fails(yard, INDEX, () -> yard.isKind(wrong, 'z'));
        }
    }

    private static void promise16Arf() {
        CHECK.part("promise 16, Arf");
        GapYard yard = new GapYard();
        gaps(yard, 1, 2, 4);
        CHECK.due(true, () -> yard.isKind(0, 'r'));
        gaps(yard, 1, 2, 4, 5);
        CHECK.due(true, () -> yard.isKind(1, 'r'));
        // 6, 6 and 4 ask for 8, which is there; 6, 6 and 5 would ask for 7.
        gaps(yard, 1, 2, 3, 7);
        CHECK.due(false, () -> yard.isKind(2, 'r'));
        gaps(yard, 1, 2, 3, 5, 7);
        CHECK.due(true, () -> yard.isKind(3, 'r'));
    }

    private static void promise16Many() {
        CHECK.part("promise 16, many ways");
        GapYard yard = fromSeventyOn();
        coinsAre(yard, 1, range(70, 139));
        CHECK.fails(yard, UNSUPPORTED, () -> yard.isKind(1, 'c'));
        CHECK.due(true, () -> yard.isKind(1, 'm'));
        CHECK.fails(yard, UNSUPPORTED, () -> yard.bettis(1));
        CHECK.fails(yard, UNSUPPORTED, () -> yard.relations(1));
        // 300 is looked at, and has 400 ways.
        GapYard just = fourHundredWays();
        CHECK.due(400L, () -> just.ways(1, 300));
        CHECK.due(false, () -> just.isKind(1, 'c'));
        CHECK.due(true, () -> just.bettis(1) > 0 && just.relations(1) >= just.bettis(1));
        // 234 is looked at, and has 401 ways.
        GapYard more = oneWayMore();
        CHECK.due(401L, () -> more.ways(1, 234));
        CHECK.fails(more, UNSUPPORTED, () -> more.isKind(1, 'c'));
        CHECK.fails(more, UNSUPPORTED, () -> more.bettis(1));
        CHECK.fails(more, UNSUPPORTED, () -> more.relations(1));
    }

    private static int[] range(int first, int last) {
        int[] numbers = new int[last - first + 1];
        for (int i = 0; i < numbers.length; i++) {
            numbers[i] = first + i;
        }
        return numbers;
    }

    private static void promise17() {
        CHECK.part("promise 17");
        CHECK.due(0, () -> all().wilf(0));
        CHECK.due(0, () -> of(3, 5).wilf(0));
        CHECK.due(22 * 3 - 44, () -> of(6, 9, 20).wilf(0));
        CHECK.due(0, () -> of(3, 4, 5).wilf(0));
        CHECK.due(6 * 3 - 14, () -> of(5, 7, 9).wilf(0));
        GapYard yard = of(3, 5);
        for (int wrong : WRONG) {
            CHECK.fails(yard, INDEX, () -> yard.wilf(wrong));
        }
    }

    private static void promise18() {
        CHECK.part("promise 18");
        GapYard yard = of(6, 9, 20);
        CHECK.due(1, () -> yard.closure(0, 'r'));
        // Euclid's steps: 6, then 3 of 6 3 14, then 3, 3, 3 down to 2, and 1.
        gapsAre(yard, 1, 1, 2, 3, 4, 5, 7, 8, 10, 11, 13, 14, 16, 17, 19);
        CHECK.due(2, () -> yard.closure(0, 'b'));
        coinsAre(yard, 2, 3, 14);
        CHECK.due(3, () -> yard.closure(0, 'u'));
        CHECK.due(true, () -> yard.has(3, 43));
        CHECK.due(21, () -> yard.genus(3));
        CHECK.due(37, () -> yard.frobenius(3));
        GapYard all = all();
        CHECK.due(1, () -> all.closure(0, 'r'));
        CHECK.due(0, () -> all.genus(1));
        CHECK.due(2, () -> all.closure(0, 'b'));
        CHECK.due(0, () -> all.genus(2));
        CHECK.fails(all, UNSUPPORTED, () -> all.closure(0, 'u'));
        CHECK.fails(all, ARGUMENT, () -> all.closure(0, 's'));
        CHECK.fails(all, INDEX, () -> all.closure(3, 's'));
        CHECK.fails(all, INDEX, () -> all.closure(-1, 'u'));
        span(all, 4, 6, 9);
        CHECK.due(4, () -> all.closure(3, 'r'));
        gapsAre(all, 4, 1, 2, 3, 5, 7);
        GapYard full = full();
        for (char kind : "rbu".toCharArray()) {
            CHECK.fails(full, STATE, () -> full.closure(0, kind));
        }
        CHECK.fails(full, ARGUMENT, () -> full.closure(0, 'z'));
        CHECK.fails(full, INDEX, () -> full.closure(10, 'z'));
        full.drop();
        span(full, 1);
        CHECK.fails(full, UNSUPPORTED, () -> full.closure(9, 'u'));
    }

    private static void promise19() {
        CHECK.part("promise 19");
        GapYard yard = of(3, 5);
        CHECK.due(1, () -> yard.quotient(0, 1));
        gapsAre(yard, 1, 1, 2, 4, 7);
        CHECK.due(2, () -> yard.quotient(0, 2));
        gapsAre(yard, 2, 1, 2);
        CHECK.due(3, () -> yard.quotient(0, 7));
        gapsAre(yard, 3, 1);
        CHECK.due(4, () -> yard.quotient(0, 3));
        gapsAre(yard, 4);
        CHECK.due(5, () -> yard.quotient(0, 300));
        gapsAre(yard, 5);
        for (int number : new int[] {0, -1, 301, Integer.MIN_VALUE, Integer.MAX_VALUE}) {
            CHECK.fails(yard, ARGUMENT, () -> yard.quotient(0, number));
            CHECK.fails(yard, INDEX, () -> yard.quotient(6, number));
        }
        GapYard full = full();
        CHECK.fails(full, STATE, () -> full.quotient(0, 2));
        CHECK.fails(full, ARGUMENT, () -> full.quotient(0, 0));
        CHECK.fails(full, INDEX, () -> full.quotient(-1, 2));
    }

    private static void promise20() {
        CHECK.part("promise 20");
        GapYard yard = of(3, 5);
        span(yard, 4, 5);
        CHECK.due(2, () -> yard.meet(0, 1, false));
        gapsAre(yard, 2, 1, 2, 3, 4, 6, 7, 11);
        CHECK.due(3, () -> yard.meet(0, 1, true));
        gapsAre(yard, 3, 1, 2);
        CHECK.due(4, () -> yard.meet(0, 0, true));
        gapsAre(yard, 4, 1, 2, 4, 7);
        CHECK.due(5, () -> yard.meet(0, 0, false));
        gapsAre(yard, 5, 1, 2, 4, 7);
        CHECK.fails(yard, INDEX, () -> yard.meet(0, 6, true));
        CHECK.fails(yard, INDEX, () -> yard.meet(6, 0, false));
        CHECK.fails(yard, INDEX, () -> yard.meet(-1, -1, false));
        GapYard full = full();
        CHECK.fails(full, STATE, () -> full.meet(0, 9, true));
        CHECK.fails(full, STATE, () -> full.meet(0, 9, false));
        CHECK.fails(full, INDEX, () -> full.meet(0, 10, true));
        GapYard great = of(4, 101);
        span(great, 11, 31);
        CHECK.due(2, () -> great.meet(0, 1, false));
        CHECK.due(299, () -> great.frobenius(2));
    }

    private static void promise21() {
        CHECK.part("promise 21");
        GapYard yard = of(3, 5);
        CHECK.due(1, () -> yard.without(0, 0));
        gapsAre(yard, 1, 1, 2, 3, 4, 7);
        CHECK.due(2, () -> yard.without(0, 1));
        gapsAre(yard, 2, 1, 2, 4, 5, 7);
        CHECK.fails(yard, ELEMENT, () -> yard.without(0, 2));
        CHECK.fails(yard, ELEMENT, () -> yard.without(0, -1));
        CHECK.fails(yard, INDEX, () -> yard.without(3, 2));
        GapYard all = all();
        CHECK.due(1, () -> all.without(0, 0));
        coinsAre(all, 1, 2, 3);
        // The generators of what is left of 2 and 299 are 2 and 301, and with that out the conductor is above 300.
        GapYard two = of(2, 299);
        CHECK.due(1, () -> two.without(0, 1));
        CHECK.due(299, () -> two.frobenius(1));
        CHECK.fails(two, UNSUPPORTED, () -> two.without(1, 1));
        CHECK.fails(two, ELEMENT, () -> two.without(1, 2));
        CHECK.due(2, () -> two.without(0, 0));
        CHECK.due(297, () -> two.frobenius(2));
        GapYard great = of(7, 295, 296, 297, 298, 299, 300);
        CHECK.fails(great, UNSUPPORTED, () -> great.without(0, 6));
        CHECK.due(1, () -> great.without(0, 5));
        CHECK.due(299, () -> great.frobenius(1));
        GapYard full = full();
        CHECK.fails(full, STATE, () -> full.without(0, 0));
        CHECK.fails(full, ELEMENT, () -> full.without(0, 2));
        CHECK.fails(full, INDEX, () -> full.without(10, 2));
        full.drop();
        full.drop();
        span(full, 2, 299);
        full.without(8, 1);
        CHECK.fails(full, UNSUPPORTED, () -> full.without(9, 1));
    }

    private static void promises22And23() {
        CHECK.part("promise 22");
        CHECK.due(1, () -> all().children(0));
        CHECK.due(2, () -> of(2, 3).children(0));
        CHECK.due(0, () -> of(3, 5).children(0));
        CHECK.due(3, () -> of(3, 4, 5).children(0));
        CHECK.due(1, () -> of(2, 9).children(0));
        CHECK.part("promise 23");
        GapYard yard = all();
        int[] levels = {1, 1, 2, 4, 7, 12, 23};
        for (int i = 0; i < levels.length; i++) {
            int steps = i;
            CHECK.due(levels[i], () -> yard.below(0, steps));
        }
        GapYard three = of(3, 4, 5);
        CHECK.due(1, () -> three.below(0, 0));
        CHECK.due(3, () -> three.below(0, 1));
        CHECK.due(6, () -> three.below(0, 2));
        CHECK.due(0, () -> of(3, 5).below(0, 3));
        CHECK.due(1, () -> of(2, 9).below(0, 6));
        for (int steps : new int[] {-1, 7, Integer.MIN_VALUE, Integer.MAX_VALUE}) {
            CHECK.fails(yard, ARGUMENT, () -> yard.below(0, steps));
            CHECK.fails(yard, INDEX, () -> yard.below(1, steps));
        }
        for (int wrong : WRONG) {
            CHECK.fails(yard, INDEX, () -> yard.children(wrong));
            CHECK.fails(yard, INDEX, () -> yard.below(wrong, 0));
        }
        // All from 70 on: 70 below it, then their pairs, then far more than 5000 triples.
        GapYard wide = fromSeventyOn();
        CHECK.due(70, () -> wide.below(1, 1));
        // 71 without 70, as many as there are greater ones without another one, and 141 without 71.
        CHECK.due(71 + 69 * 68 / 2 + 1, () -> wide.below(1, 2));
        CHECK.fails(wide, UNSUPPORTED, () -> wide.below(1, 3));
        CHECK.fails(wide, ARGUMENT, () -> wide.below(1, 7));
        // All from 100 on have 4953 two steps below, and all from 101 on have 5053.
        GapYard hundred = new GapYard();
        span(hundred, 100, 101, 102, 103, 104, 105, 110, 115, 120, 125, 150, 175);
        hundred.closure(0, 'r');
        hundred.without(1, 0);
        CHECK.due(100 + 2 + 99 * 98 / 2, () -> hundred.below(1, 2));
        CHECK.due(101, () -> hundred.below(2, 1));
        CHECK.fails(hundred, UNSUPPORTED, () -> hundred.below(2, 2));
        // Without 300 the conductor would be 301.
        GapYard great = of(7, 295, 296, 297, 298, 299, 300);
        CHECK.due(1, () -> great.below(0, 0));
        CHECK.due(6, () -> great.children(0));
        CHECK.fails(great, UNSUPPORTED, () -> great.below(0, 1));
        // The odd generators of these are 297, 299 and 301 after a step each.
        GapYard two = of(2, 297);
        CHECK.due(1, () -> two.below(0, 2));
        CHECK.fails(two, UNSUPPORTED, () -> two.below(0, 3));
        two.without(0, 1);
        two.without(1, 1);
        CHECK.due(1, () -> two.below(2, 0));
        CHECK.fails(two, UNSUPPORTED, () -> two.below(2, 1));
    }

    // ---- ways

    private static void promise24() {
        CHECK.part("promise 24");
        GapYard yard = of(6, 9, 20);
        CHECK.due(1L, () -> yard.ways(0, 0));
        CHECK.due(0L, () -> yard.ways(0, 43));
        CHECK.due(2L, () -> yard.ways(0, 18));
        CHECK.due(6L, () -> yard.ways(0, 72));
        CHECK.due(1L, () -> all().ways(0, 300));
        CHECK.due(51L, () -> of(2, 3).ways(0, 300));
        CHECK.due(781L, () -> of(3, 4, 5).ways(0, 300));
        for (int number : FAR) {
            CHECK.fails(yard, ARGUMENT, () -> yard.ways(0, number));
            CHECK.fails(yard, INDEX, () -> yard.ways(1, number));
        }
        for (int wrong : WRONG) {
            CHECK.fails(yard, INDEX, () -> yard.ways(wrong, 0));
        }
    }

    private static void promises25And26() {
        CHECK.part("promise 25");
        GapYard yard = of(6, 9, 20);
        CHECK.due(12, () -> yard.lengthOf(0, 72, true));
        CHECK.due(3, () -> yard.lengthOf(0, 60, false));
        CHECK.due(10, () -> yard.lengthOf(0, 60, true));
        CHECK.due(0, () -> yard.lengthOf(0, 0, false));
        CHECK.due(0, () -> yard.lengthOf(0, 0, true));
        CHECK.due(300, () -> all().lengthOf(0, 300, false));
        CHECK.due(300, () -> all().lengthOf(0, 300, true));
        CHECK.due(150, () -> of(2, 3).lengthOf(0, 300, true));
        CHECK.due(100, () -> of(2, 3).lengthOf(0, 300, false));
        CHECK.fails(yard, ELEMENT, () -> yard.lengthOf(0, 43, true));
        CHECK.fails(yard, ELEMENT, () -> yard.lengthOf(0, 1, false));
        CHECK.part("promise 26");
        // Twelve of 6, two of 9 for three of these up to eight of 9; three of 20 and two of 6.
        CHECK.due(6, () -> yard.lengths(0, 72));
        CHECK.due(1, () -> yard.lengths(0, 0));
        CHECK.due(0, () -> yard.lengths(0, 43));
        CHECK.due(51, () -> of(2, 3).lengths(0, 300));
        CHECK.due(41, () -> of(3, 4, 5).lengths(0, 300));
        for (int number : FAR) {
            CHECK.fails(yard, ARGUMENT, () -> yard.lengthOf(0, number, true));
            CHECK.fails(yard, ARGUMENT, () -> yard.lengths(0, number));
            CHECK.fails(yard, INDEX, () -> yard.lengthOf(1, number, true));
            CHECK.fails(yard, INDEX, () -> yard.lengths(1, number));
        }
    }

    private static void promise27() {
        CHECK.part("promise 27");
        CHECK.due(2, () -> of(3, 5).deltas(0, 30));
        CHECK.due(0, () -> of(3, 5).deltas(0, 14));
        CHECK.due(0, () -> of(3, 5).deltas(0, 7));
        CHECK.due(1, () -> of(2, 3).deltas(0, 6));
        CHECK.due(0, () -> of(2, 3).deltas(0, 0));
        // 66 is 33 twos, or two of 33: the delta is 31; with 35 it is 33 and aside.
        CHECK.due(1 << 30, () -> of(2, 33).deltas(0, 66));
        CHECK.due(0, () -> of(2, 35).deltas(0, 70));
        // The lengths of 60 are 3, 7, 8, 9 and 10.
        CHECK.due(1 | 1 << 3, () -> of(6, 9, 20).deltas(0, 60));
        GapYard yard = of(3, 5);
        for (int number : FAR) {
            CHECK.fails(yard, ARGUMENT, () -> yard.deltas(0, number));
            CHECK.fails(yard, INDEX, () -> yard.deltas(1, number));
        }
    }

    private static void promise28() {
        CHECK.part("promise 28");
        CHECK.due(3, () -> of(6, 9, 20).elasticity(0, true));
        CHECK.due(10, () -> of(6, 9, 20).elasticity(0, false));
        CHECK.due(1, () -> all().elasticity(0, true));
        CHECK.due(1, () -> all().elasticity(0, false));
        CHECK.due(4, () -> of(4, 6, 9).elasticity(0, true));
        CHECK.due(9, () -> of(4, 6, 9).elasticity(0, false));
        CHECK.due(2, () -> of(6, 7, 8, 9).elasticity(0, true));
        CHECK.due(3, () -> of(6, 7, 8, 9).elasticity(0, false));
        GapYard yard = of(3, 5);
        for (int wrong : WRONG) {
            CHECK.fails(yard, INDEX, () -> yard.elasticity(wrong, true));
        }
    }

    private static void promise29() {
        CHECK.part("promise 29");
        GapYard yard = of(4, 6, 9);
        CHECK.due(0, () -> yard.catenary(0, 0));
        CHECK.due(0, () -> yard.catenary(0, 11));
        CHECK.due(0, () -> yard.catenary(0, 10));
        CHECK.due(3, () -> yard.catenary(0, 12));
        CHECK.due(3, () -> yard.catenary(0, 18));
        CHECK.due(5, () -> of(3, 5).catenary(0, 30));
        CHECK.due(5, () -> of(3, 5).catenary(0, 300));
        CHECK.due(0, () -> of(3, 5).catenary(0, 14));
        // 60 is ten of 6 or three of 20; 18 is three of 6 or two of 9.
        CHECK.due(7, () -> of(6, 9, 20).catenary(0, 60));
        CHECK.due(3, () -> of(6, 9, 20).catenary(0, 36));
        CHECK.due(0, () -> all().catenary(0, 300));
        GapYard three = of(3, 4, 5);
        CHECK.fails(three, UNSUPPORTED, () -> three.catenary(0, 300));
        CHECK.due(400L, () -> three.ways(0, 213));
        CHECK.due(3, () -> three.catenary(0, 213));
        CHECK.due(403L, () -> three.ways(0, 214));
        CHECK.fails(three, UNSUPPORTED, () -> three.catenary(0, 214));
        for (int number : FAR) {
            CHECK.fails(yard, ARGUMENT, () -> yard.catenary(0, number));
            CHECK.fails(yard, INDEX, () -> yard.catenary(1, number));
        }
    }

    private static void promise30() {
        CHECK.part("promise 30");
        GapYard yard = of(4, 6, 9);
        CHECK.due(1, () -> yard.parts(0, 0));
        CHECK.due(0, () -> yard.parts(0, 11));
        CHECK.due(1, () -> yard.parts(0, 4));
        CHECK.due(2, () -> yard.parts(0, 12));
        CHECK.due(2, () -> yard.parts(0, 18));
        CHECK.due(1, () -> yard.parts(0, 24));
        CHECK.due(3, () -> of(6, 10, 15).parts(0, 30));
        CHECK.due(1, () -> all().parts(0, 300));
        GapYard three = of(3, 4, 5);
        CHECK.fails(three, UNSUPPORTED, () -> three.parts(0, 300));
        CHECK.due(1, () -> three.parts(0, 213));
        CHECK.fails(three, UNSUPPORTED, () -> three.parts(0, 214));
        for (int number : FAR) {
            CHECK.fails(yard, ARGUMENT, () -> yard.parts(0, number));
            CHECK.fails(yard, INDEX, () -> yard.parts(1, number));
        }
    }

    private static void promises31And32() {
        CHECK.part("promises 31 and 32");
        relationsAre(all(), 0, 0);
        relationsAre(of(3, 5), 1, 1);
        relationsAre(of(4, 6, 9), 2, 2);
        relationsAre(of(6, 10, 15), 1, 2);
        relationsAre(of(3, 4, 5), 3, 3);
        relationsAre(of(5, 6, 7, 8), 5, 5);
        // The only Betti number of 2 and 299 is 598, and that of 7 and 43 is 301; that of 12 and 25 is 300.
        relationsAre(of(2, 299), 0, 0);
        relationsAre(of(7, 43), 0, 0);
        relationsAre(of(12, 25), 1, 1);
        GapYard yard = of(3, 5);
        for (int wrong : WRONG) {
            CHECK.fails(yard, INDEX, () -> yard.bettis(wrong));
            CHECK.fails(yard, INDEX, () -> yard.relations(wrong));
        }
    }

    private static void relationsAre(GapYard yard, int bettis, int relations) {
        CHECK.due(bettis, () -> yard.bettis(0));
        CHECK.due(relations, () -> yard.relations(0));
    }

    // ---- ideals

    private static void promise33() {
        CHECK.part("promise 33");
        GapYard yard = of(3, 5);
        CHECK.fails(yard, ARGUMENT, () -> yard.ideal(0));
        CHECK.fails(yard, INDEX, () -> yard.ideal(1));
        typed(yard, 152, 150, 152);
        CHECK.fails(yard, INDEX, () -> yard.ideal(1));
        CHECK.fails(yard, INDEX, () -> yard.ideal(-1));
        CHECK.due(0, () -> yard.ideal(0));
        CHECK.due(0, yard::wipe);
        membersAre(yard, 0, 0, 2, 3, 5, 6, 7);
        CHECK.due(1, () -> idealOf(yard, 0, -150, 150));
        CHECK.due(-150, () -> yard.least(1));
        CHECK.due(1, () -> yard.needs(1));
        CHECK.due(2, () -> idealOf(yard, 0, 150));
        CHECK.due(150, () -> yard.least(2));
        GapYard full = fullOfIdeals();
        full.type(9);
        CHECK.fails(full, STATE, () -> full.ideal(0));
        full.wipe();
        CHECK.fails(full, ARGUMENT, () -> full.ideal(0));
        CHECK.fails(full, INDEX, () -> full.ideal(1));
    }

    /** The numbers of an ideal that are below the first one behind which all are in it. */
    private static void membersAre(GapYard yard, int ideal, int... members) {
        int last = members[members.length - 1];
        for (int n = members[0] - 20; n <= last + 40; n++) {
            boolean isMember = n > last;
            for (int member : members) {
                isMember |= member == n;
            }
            int number = n;
            CHECK.due(isMember, () -> yard.isIn(ideal, number));
        }
    }

    private static void promise34() {
        CHECK.part("promise 34");
        GapYard yard = of(3, 5);
        CHECK.due(0, () -> yard.canonical(0));
        membersAre(yard, 0, 0, 3, 5, 6, 8);
        GapYard three = of(3, 5, 7);
        CHECK.due(0, () -> three.canonical(0));
        membersAre(three, 0, 0, 2, 3, 5);
        CHECK.due(2, () -> three.needs(0));
        GapYard all = all();
        CHECK.due(0, () -> all.canonical(0));
        membersAre(all, 0, 0);
        for (int n = 590; n <= 610; n++) {
            int number = n;
            CHECK.due(true, () -> all.isIn(0, number));
        }
        for (int wrong : WRONG) {
            CHECK.fails(yard, INDEX, () -> yard.canonical(wrong));
        }
        GapYard full = fullOfIdeals();
        CHECK.fails(full, STATE, () -> full.canonical(0));
        CHECK.fails(full, INDEX, () -> full.canonical(1));
    }

    private static void promise35() {
        CHECK.part("promise 35");
        GapYard yard = of(3, 5);
        idealOf(yard, 0, 0, 2);
        idealOf(yard, 0, 1, 5);
        CHECK.due(2, () -> yard.combine(0, 1, '+'));
        membersAre(yard, 2, 1, 3, 4);
        CHECK.due(3, () -> yard.combine(0, 1, '-'));
        // 2 is in it, as 3 5 6 7 8 are in the first; 1 is in it too, by 2 5 6 7 9 10.
        membersAre(yard, 3, 1, 2, 4);
        CHECK.due(4, () -> yard.combine(0, 1, '&'));
        membersAre(yard, 4, 5, 6, 7);
        CHECK.due(5, () -> yard.combine(0, 1, '|'));
        membersAre(yard, 5, 0, 1, 2, 3, 4);
        CHECK.due(6, () -> yard.combine(1, 1, '-'));
        CHECK.fails(yard, ARGUMENT, () -> yard.combine(0, 1, 'z'));
        CHECK.fails(yard, ARGUMENT, () -> yard.combine(0, 1, (char) 0));
        CHECK.fails(yard, INDEX, () -> yard.combine(0, 7, '+'));
        CHECK.fails(yard, INDEX, () -> yard.combine(7, 0, 'z'));
        CHECK.fails(yard, INDEX, () -> yard.combine(-1, Integer.MAX_VALUE, '+'));
        span(yard, 3, 4);
        idealOf(yard, 1, 0);
        CHECK.fails(yard, ARGUMENT, () -> yard.combine(0, 7, '+'));
        CHECK.fails(yard, ARGUMENT, () -> yard.combine(7, 0, '|'));
        CHECK.fails(yard, STATE, () -> yard.combine(0, 1, '+'));
        CHECK.fails(yard, STATE, () -> yard.combine(7, 7, '&'));
        CHECK.fails(yard, INDEX, () -> yard.combine(0, 8, '+'));
    }

    private static void promise35Ranges() {
        CHECK.part("promise 35, ranges");
        GapYard yard = all();
        idealOf(yard, 0, 150);
        idealOf(yard, 0, -150);
        CHECK.due(2, () -> yard.combine(0, 0, '+'));
        CHECK.due(300, () -> yard.least(2));
        CHECK.due(3, () -> yard.combine(1, 1, '+'));
        CHECK.due(-300, () -> yard.least(3));
        CHECK.fails(yard, UNSUPPORTED, () -> yard.combine(2, 0, '+'));
        CHECK.fails(yard, UNSUPPORTED, () -> yard.combine(3, 1, '+'));
        CHECK.fails(yard, UNSUPPORTED, () -> yard.combine(3, 2, '-'));
        CHECK.fails(yard, UNSUPPORTED, () -> yard.combine(2, 1, '-'));
        CHECK.due(4, () -> yard.combine(0, 1, '-'));
        CHECK.due(300, () -> yard.least(4));
        CHECK.due(5, () -> yard.combine(1, 0, '-'));
        CHECK.due(-300, () -> yard.least(5));
        CHECK.due(true, () -> yard.isIn(3, -300));
        CHECK.due(false, () -> yard.isIn(3, -301));
        CHECK.due(6, () -> yard.combine(2, 3, '|'));
        CHECK.due(7, () -> yard.combine(2, 3, '&'));
        CHECK.due(300, () -> yard.least(7));
        CHECK.fails(yard, UNSUPPORTED, () -> yard.combine(2, 0, '+'));
        CHECK.fails(yard, ARGUMENT, () -> yard.combine(2, 0, '*'));
        GapYard two = of(2, 299);
        idealOf(two, 0, 150);
        idealOf(two, 0, 149);
        CHECK.due(2, () -> two.combine(0, 0, '+'));
        idealOf(two, 0, 101);
        CHECK.due(4, () -> two.combine(0, 3, '+'));
        CHECK.due(251, () -> two.least(4));
        CHECK.fails(two, UNSUPPORTED, () -> two.combine(2, 4, '&'));
    }

    private static void promise36() {
        CHECK.part("promise 36");
        GapYard yard = of(3, 5, 7);
        idealOf(yard, 0, 0);
        CHECK.due(1, () -> yard.dual(0));
        membersAre(yard, 1, 0, 2, 3, 5);
        CHECK.due(2, () -> yard.dual(1));
        membersAre(yard, 2, 0, 3, 5);
        idealOf(yard, 0, 10, 11);
        CHECK.due(4, () -> yard.dual(3));
        // The second one lacks 12, 14 and all below 10: 4 less these.
        membersAre(yard, 4, -8, -5);
        for (int wrong : new int[] {-1, 5, 8, Integer.MAX_VALUE}) {
            CHECK.fails(yard, INDEX, () -> yard.dual(wrong));
        }
        GapYard two = of(2, 299);
        idealOf(two, 0, -150);
        CHECK.due(1, () -> two.dual(0));
        CHECK.due(150, () -> two.least(1));
        two.combine(0, 0, '+');
        CHECK.due(3, () -> two.dual(2));
        CHECK.due(300, () -> two.least(3));
        idealOf(two, 0, -149, -150);
        two.combine(0, 4, '+');
        CHECK.fails(two, UNSUPPORTED, () -> two.dual(5));
        while (two.canonical(0) < 7) {
            continue;
        }
        CHECK.fails(two, UNSUPPORTED, () -> two.dual(5));
        CHECK.fails(two, STATE, () -> two.dual(0));
        CHECK.fails(two, INDEX, () -> two.dual(8));
    }

    private static void promises37To40() {
        CHECK.part("promise 37");
        GapYard yard = of(3, 5);
        CHECK.fails(yard, STATE, yard::dropIdeal);
        idealOf(yard, 0, 4);
        idealOf(yard, 0, -9, -8, -7);
        CHECK.part("promise 38");
        CHECK.due(false, () -> yard.isIn(1, -10));
        CHECK.due(true, () -> yard.isIn(1, -9));
        CHECK.due(false, () -> yard.isIn(0, 5));
        CHECK.due(true, () -> yard.isIn(0, 12));
        CHECK.due(false, () -> yard.isIn(0, 11));
        CHECK.due(true, () -> yard.isIn(0, 601));
        CHECK.due(true, () -> yard.isIn(0, Integer.MAX_VALUE));
        CHECK.due(false, () -> yard.isIn(0, -301));
        CHECK.due(false, () -> yard.isIn(0, Integer.MIN_VALUE));
        CHECK.part("promise 39");
        CHECK.due(1, () -> yard.needs(0));
        CHECK.due(3, () -> yard.needs(1));
        CHECK.part("promise 40");
        CHECK.due(4, () -> yard.least(0));
        CHECK.due(-9, () -> yard.least(1));
        for (int wrong : new int[] {-1, 2, 8, Integer.MIN_VALUE, Integer.MAX_VALUE}) {
            CHECK.fails(yard, INDEX, () -> yard.isIn(wrong, 0));
            CHECK.fails(yard, INDEX, () -> yard.needs(wrong));
            CHECK.fails(yard, INDEX, () -> yard.least(wrong));
        }
        CHECK.part("promise 37");
        CHECK.due(1, yard::dropIdeal);
        CHECK.due(4, () -> yard.least(0));
        CHECK.fails(yard, INDEX, () -> yard.least(1));
        CHECK.due(0, yard::dropIdeal);
        CHECK.fails(yard, STATE, yard::dropIdeal);
        CHECK.due(7, () -> yard.frobenius(0));
    }

    private static void promise41() {
        CHECK.part("promise 41");
        GapYard yard = of(3, 5);
        idealOf(yard, 0, 0, 2);
        idealOf(yard, 0, -20, -18);
        idealOf(yard, 0, 0, 4);
        CHECK.due(true, () -> yard.areMoved(0, 1));
        CHECK.due(true, () -> yard.areMoved(1, 0));
        CHECK.due(true, () -> yard.areMoved(2, 2));
        CHECK.due(false, () -> yard.areMoved(0, 2));
        // An ideal of another semigroup may be the same set: 0, 3, 5 and on.
        span(yard, 3, 5, 7);
        idealOf(yard, 0, 11, 18);
        idealOf(yard, 1, -1);
        CHECK.due(true, () -> yard.areMoved(3, 4));
        CHECK.due(false, () -> yard.areMoved(0, 4));
        for (int wrong : new int[] {-1, 5, Integer.MAX_VALUE}) {
            CHECK.fails(yard, INDEX, () -> yard.areMoved(0, wrong));
            CHECK.fails(yard, INDEX, () -> yard.areMoved(wrong, 0));
        }
    }

    // ---- series, codes, games, change

    private static void promise42() {
        CHECK.part("promise 42");
        GapYard yard = of(3, 5);
        int[] series = {1, -1, 0, 1, -1, 1, 0, -1, 1, 0, 0};
        for (int i = 0; i < series.length; i++) {
            int power = i;
            CHECK.due(series[i], () -> yard.coefficient(0, power));
        }
        CHECK.due(0, () -> yard.coefficient(0, Integer.MAX_VALUE));
        CHECK.due(1, () -> all().coefficient(0, 0));
        CHECK.due(0, () -> all().coefficient(0, 1));
        CHECK.fails(yard, ARGUMENT, () -> yard.coefficient(0, -1));
        CHECK.fails(yard, ARGUMENT, () -> yard.coefficient(0, Integer.MIN_VALUE));
        CHECK.fails(yard, INDEX, () -> yard.coefficient(1, -1));
    }

    private static void promises43And44() {
        CHECK.part("promise 43");
        GapYard yard = of(3, 5);
        // 0 3 5 6 8 9 10 11 12: 10 is 5 and 5, 0 and 10; 11 is 3 and 8, 5 and 6, 0 and 11.
        int[] due = {1, 2, 2, 3, 4, 4, 3, 6, 5};
        for (int i = 0; i < due.length; i++) {
            int index = i;
            CHECK.due(due[i], () -> yard.pairs(0, index));
        }
        CHECK.due(304 + 1 - 8, () -> yard.pairs(0, 300));
        CHECK.due(301, () -> all().pairs(0, 300));
        CHECK.due(450 + 1 - 300 + gapPairs(450), () -> of(4, 101).pairs(0, 300));
        CHECK.part("promise 44");
        CHECK.due(1, () -> yard.bound(0, 0));
        CHECK.due(2, () -> yard.bound(0, 1));
        CHECK.due(2, () -> yard.bound(0, 2));
        CHECK.due(3, () -> yard.bound(0, 3));
        CHECK.due(3, () -> yard.bound(0, 4));
        CHECK.due(3, () -> yard.bound(0, 6));
        CHECK.due(5, () -> yard.bound(0, 7));
        CHECK.due(297, () -> yard.bound(0, 300));
        CHECK.due(301, () -> all().bound(0, 300));
        for (int index : FAR) {
            CHECK.fails(yard, ARGUMENT, () -> yard.pairs(0, index));
            CHECK.fails(yard, ARGUMENT, () -> yard.bound(0, index));
            CHECK.fails(yard, INDEX, () -> yard.pairs(1, index));
            CHECK.fails(yard, INDEX, () -> yard.bound(1, index));
        }
    }

    /** In how many ways a number is a sum of two gaps of 4 and 101, in their order. */
    private static int gapPairs(int number) {
        GapYard yard = of(4, 101);
        int count = 0;
        for (int n = 0; n <= number; n++) {
            if (!yard.has(0, n) && !yard.has(0, number - n)) {
                count++;
            }
        }
        return count;
    }

    private static void promise45() {
        CHECK.part("promise 45");
        CHECK.due(true, () -> all().wins(0));
        CHECK.due(false, () -> of(2, 3).wins(0));
        CHECK.due(true, () -> of(3, 4, 5).wins(0));
        CHECK.due(true, () -> of(2, 5).wins(0));
        CHECK.due(true, () -> of(3, 5).wins(0));
        // Naming 2 leaves 3 to name, and naming 3 leaves 2; so 7 and 6 are what wins here.
        CHECK.due(false, () -> of(4, 5, 6, 7).wins(0));
        CHECK.due(true, () -> of(4, 5, 6).wins(0));
        CHECK.due(true, () -> of(4, 5, 7).wins(0));
        CHECK.due(true, () -> of(2, 25).wins(0));
        GapYard great = of(2, 27);
        CHECK.fails(great, UNSUPPORTED, () -> great.wins(0));
        CHECK.fails(great, INDEX, () -> great.wins(1));
        CHECK.fails(great, INDEX, () -> great.wins(-1));
    }

    private static void promises46And47() {
        CHECK.part("promise 46");
        GapYard yard = of(3, 5);
        CHECK.due(0, () -> yard.greed(0, 0));
        CHECK.due(2, () -> yard.greed(0, 8));
        CHECK.due(60, () -> yard.greed(0, 300));
        CHECK.fails(yard, ELEMENT, () -> yard.greed(0, 9));
        CHECK.fails(yard, ELEMENT, () -> yard.greed(0, 1));
        CHECK.due(300, () -> all().greed(0, 300));
        CHECK.part("promise 47");
        CHECK.due(true, () -> yard.isGreedy(0, 0));
        CHECK.due(true, () -> yard.isGreedy(0, 5));
        CHECK.due(false, () -> yard.isGreedy(0, 6 + 3));
        CHECK.due(false, () -> yard.isGreedy(0, 6));
        CHECK.due(true, () -> all().isGreedy(0, 300));
        CHECK.due(true, () -> of(2, 3).isGreedy(0, 3));
        CHECK.due(false, () -> of(2, 3).isGreedy(0, 4));
        // 8 is two of 4, but greed takes 7 first.
        CHECK.due(true, () -> of(4, 6, 7, 9).isGreedy(0, 7));
        CHECK.due(false, () -> of(4, 6, 7, 9).isGreedy(0, 8));
        for (int number : FAR) {
            CHECK.fails(yard, ARGUMENT, () -> yard.greed(0, number));
            CHECK.fails(yard, ARGUMENT, () -> yard.isGreedy(0, number));
            CHECK.fails(yard, INDEX, () -> yard.greed(1, number));
            CHECK.fails(yard, INDEX, () -> yard.isGreedy(1, number));
        }
    }

    private static void promise48() {
        CHECK.part("promise 48");
        GapYard yard = new GapYard();
        CHECK.fails(yard, ARGUMENT, () -> yard.stamps(3));
        typed(yard, 4, 1, 5);
        CHECK.due(15, () -> yard.stamps(3));
        CHECK.due(1, () -> yard.stamps(1));
        CHECK.due(2, () -> yard.stamps(2));
        for (int stamps : new int[] {0, 21, -1, Integer.MIN_VALUE, Integer.MAX_VALUE}) {
            CHECK.fails(yard, ARGUMENT, () -> yard.stamps(stamps));
        }
        CHECK.due(3, yard::wipe);
        typed(yard, 1, 300);
        CHECK.due(20, () -> yard.stamps(20));
        yard.wipe();
        typed(yard, 0);
        CHECK.due(0, () -> yard.stamps(5));
        typed(yard, 1, 2);
        CHECK.due(40, () -> yard.stamps(20));
        yard.wipe();
        typed(yard, 2, 3);
        CHECK.due(0, () -> yard.stamps(20));
        yard.wipe();
        typed(yard, 1, 2, 4, 8, 16, 32, 64, 128, 256, 300, 0, 200);
        CHECK.due(true, () -> yard.stamps(20) > 5000 && yard.stamps(20) <= 6000);
    }

    private static void promise49() {
        CHECK.part("promise 49");
        GapYard yard = new GapYard();
        CHECK.fails(yard, ARGUMENT, () -> yard.sums(0));
        typed(yard, 1, 4, 6);
        CHECK.due(1, () -> yard.sums(0));
        CHECK.due(3, () -> yard.sums(1));
        CHECK.due(6, () -> yard.sums(2));
        CHECK.due(3, yard::wipe);
        typed(yard, 0, 300, 300);
        CHECK.due(10, () -> yard.sums(9));
        yard.wipe();
        typed(yard, 299, 300, 298);
        CHECK.due(19, () -> yard.sums(9));
        yard.wipe();
        typed(yard, 0, 1, 300);
        CHECK.due(10 * 11 / 2, () -> yard.sums(9));
        yard.wipe();
        typed(yard, 7);
        CHECK.due(1, () -> yard.sums(9));
        for (int times : new int[] {-1, 10, Integer.MIN_VALUE, Integer.MAX_VALUE}) {
            CHECK.fails(yard, ARGUMENT, () -> yard.sums(times));
        }
    }

    private static void promise50() {
        CHECK.part("promise 50");
        GapYard yard = of(2, 3);
        int[] values = {0, 0, 1, 1, 2, 0, 0, 1, 1, 2};
        for (int i = 0; i < values.length; i++) {
            int number = i;
            CHECK.due(values[i], () -> yard.nim(0, number));
        }
        CHECK.due(0, () -> yard.nim(0, 300));
        CHECK.due(1, () -> all().nim(0, 299));
        CHECK.due(0, () -> all().nim(0, 300));
        CHECK.due(0, () -> of(6, 9, 20).nim(0, 5));
        CHECK.due(1, () -> of(6, 9, 20).nim(0, 6));
        for (int number : FAR) {
            CHECK.fails(yard, ARGUMENT, () -> yard.nim(0, number));
            CHECK.fails(yard, INDEX, () -> yard.nim(1, number));
        }
    }

    // ---- figures

    private static void promises51To53() {
        CHECK.part("promise 51");
        GapYard yard = new GapYard();
        CHECK.fails(yard, INDEX, () -> yard.share(0));
        CHECK.part("promise 52");
        CHECK.fails(yard, ARITHMETIC, yard::meanGenus);
        span(yard, 3, 5, 7);
        CHECK.due(3.0, yard::meanGenus);
        span(yard, 1);
        span(yard, 3, 5);
        CHECK.due(7.0 / 3.0, yard::meanGenus);
        CHECK.part("promise 51");
        CHECK.due(2f / 5f, () -> yard.share(0));
        CHECK.fails(yard, ARITHMETIC, () -> yard.share(1));
        CHECK.due(0.5f, () -> yard.share(2));
        CHECK.part("promise 53");
        long sum = 7;
        for (int number : new int[] {1, 2, 4, 3, 0, 1, 2, 4, 7, 4}) {
            sum = 31 * sum + number;
        }
        CHECK.due(sum, yard::checksum);
        span(yard, 4, 101);
        long before = sum;
        for (int i = 0; i < 150; i++) {
            before = 31 * before + yard.gap(3, i);
        }
        CHECK.due(31 * before + 150, yard::checksum);
    }

    private static void promise54() {
        CHECK.part("promise 54");
        GapYard yard = new GapYard();
        CHECK.due(true, yard::isSound);
        span(yard, 6, 9, 20);
        span(yard, 1);
        gaps(yard, 1, 2, 3, 4, 5, 7);
        idealOf(yard, 0, -150, 3);
        yard.canonical(2);
        yard.dual(0);
        CHECK.due(true, yard::isSound);
        // The dual of this one would be out of range: it is left out.
        GapYard two = of(2, 299);
        idealOf(two, 0, -150, -149);
        two.combine(0, 0, '+');
        CHECK.due(true, two::isSound);
        CHECK.due(2, () -> two.canonical(0));
    }
}
