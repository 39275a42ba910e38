/** Kinds and the tree: promises 16 and 23, and what the Terms say of semigroups. */
final class KindEdges extends Yards {
    private final Edges edges;

    KindEdges(Edges edges) {
        this.edges = edges;
    }

    void run() {
        numbers();
        conductors();
        rowsOfApery();
        pseudos();
        symmetric();
        almostSymmetric();
        arf();
        ordinary();
        telescopic();
        completeIntersection();
        unknownKinds();
        manyWays();
        below();
        belowFar();
        belowMany();
    }

    private void is(boolean due, GapYard yard, int semigroup, char kind) {
        edges.due(due, () -> yard.isKind(semigroup, kind));
    }

    private void is(boolean due, char kind, int... coins) {
        is(due, of(coins), 0, kind);
    }

    // ---- the Terms

    private void numbers() {
        edges.edge(Edges.TERMS, "At most 10 semigroups have numbers from 0 on:", "each call that adds one adds the tenth, and none the eleventh");
        edges.due(0, () -> of(3, 5).drop());
        for (Edges.Call call : adding()) {
            edges.due(9, () -> call.on(typed(many(9), 1, 3)));
            edges.refused(STATE, () -> typed(full(), 1, 3), call);
        }
        edges.edge(Edges.TERMS, "sets of whole numbers from 0 on, with 0", "0 is an element, and nothing below");
        for (GapYard yard : new GapYard[] {all(), of(3, 5), of(4, 101)}) {
            edges.due(true, () -> yard.has(0, 0));
            edges.due(false, () -> yard.has(0, -1));
            edges.due(1, () -> yard.coefficient(0, 0));
        }
    }

    private static Edges.Call[] adding() {
        return new Edges.Call[] {
            GapYard::semigroup,
            GapYard::fromGaps,
            yard -> yard.closure(0, 'r'),
            yard -> yard.closure(0, 'b'),
            yard -> yard.closure(0, 'u'),
            yard -> yard.quotient(0, 2),
            yard -> yard.meet(0, 8, false),
            yard -> yard.meet(0, 8, true),
            yard -> yard.without(0, 0),
        };
    }

    private void conductors() {
        edges.edge(Edges.TERMS, "The others are the gaps;", "below the conductor alone");
        edges.due(false, () -> of(4, 101).has(0, 299));
        edges.due(true, () -> of(4, 101).has(0, 300));
        edges.edge(Edges.TERMS, "the Frobenius number is the greatest one, -1 without any;", "without any");
        edges.due(-1, () -> all().frobenius(0));
        edges.edge(Edges.TERMS, "the conductor is 1 more; it is at most 300", "it is 0 without gaps, 300 at most");
        edges.refused(ARITHMETIC, () -> all(), yard -> yard.share(0));
        edges.due(299, () -> late(300).frobenius(9));
        edges.refused(UNSUPPORTED, () -> typed(7, 102, 103), GapYard::semigroup);
        edges.refused(UNSUPPORTED, () -> late(300), yard -> yard.without(9, 0));
        edges.edge(Edges.TERMS, "The genus is the number of gaps.", "none, and all below 300");
        edges.due(0, () -> all().genus(0));
        edges.due(299, () -> late(300).genus(9));
        edges.edge(Edges.TERMS, "The left ones are the elements below the conductor.", "none, 0 alone, half of them");
        edges.due(0, () -> all().wilf(0));
        edges.due(1f / 300f, () -> late(300).share(9));
        edges.due(0.5f, () -> of(4, 101).share(0));
        edges.edge(Edges.TERMS, "The generators are the elements above 0 that are no sum of two elements above 0;", "above the conductor, too");
        edges.due(599, () -> late(300).generator(9, 299));
        edges.due(1, () -> all().generator(0, 0));
        edges.edge(Edges.TERMS, "the multiplicity is the least one.", "1, and 300");
        is(true, all(), 0, 'm');
        is(true, late(300), 9, 'm');
        edges.edge(Edges.TERMS, "A method that throws an exception changes nothing.", "neither the row, nor semigroups, nor ideals");
        edges.refused(ARGUMENT, () -> typed(fullOfIdeals(), 3, 5, 300, 0), GapYard::semigroup);
        edges.refused(STATE, () -> typed(fullOfIdeals(), 3, 5, 300, 0), yard -> yard.ideal(0));
        edges.refused(UNSUPPORTED, () -> typed(fullOfIdeals(), 2, 4), GapYard::semigroup);
        edges.edge(Edges.TERMS, "If several exceptions apply, the one that is documented first is thrown.", "all of them apply");
        edges.refused(ARGUMENT, () -> typed(full(), 0, 4, 6), GapYard::semigroup);
        edges.refused(INDEX, () -> fullOfIdeals(), yard -> yard.combine(8, 9, 'z'));
    }

    private void rowsOfApery() {
        edges.edge(Edges.TERMS, "The Apery row of an element n above 0 has for each i from 0 to n - 1 the least element that is i modulo n.",
                "0 for 0, the element less 1 as the last");
        int[] due = {0, 6, 12, 3, 9};
        for (int i = 0; i < due.length; i++) {
            int index = i;
            edges.due(due[i], () -> of(3, 5).apery(0, 5, index));
        }
        edges.edge(Edges.TERMS, "An element n is above another number m, if n - m is an element.",
                "those of an Apery row with none above them, less the element, are the pseudo-Frobenius numbers");
        // Of 5, 6 and 13 the row of 5 is 0 6 12 13 19: 12 is above 6, 19 above 6 and 13.
        int[] row = {0, 6, 12, 13, 19};
        for (int i = 0; i < row.length; i++) {
            int index = i;
            edges.due(row[i], () -> of(5, 6, 13).apery(0, 5, index));
        }
        edges.due(12 - 5, () -> of(5, 6, 13).pseudo(0, 0));
        edges.due(19 - 5, () -> of(5, 6, 13).pseudo(0, 1));
    }

    private void pseudos() {
        edges.edge(Edges.TERMS, "The pseudo-Frobenius numbers are the numbers outside, -1 for the semigroup of all",
                "-1 is none for the others, also of 2 and 3");
        edges.due(-1, () -> all().pseudo(0, 0));
        edges.due(1, () -> of(2, 3).pseudo(0, 0));
        edges.edge(Edges.TERMS, "the type is how many.", "all gaps, one, and -1");
        edges.due(299, () -> late(300).typeOf(9));
        edges.due(1, () -> of(4, 101).typeOf(0));
        edges.due(1, () -> all().typeOf(0));
    }

    // ---- kinds

    private void symmetric() {
        edges.edge(Edges.TERMS, "'s' symmetric: for each whole number i of i and the Frobenius number less i just one is an element;",
                "all numbers, one gap, the greatest conductor");
        is(true, 's', 1);
        is(true, 's', 2, 3);
        is(true, 's', 4, 101);
        is(true, 's', 2, 299);
        edges.edge(Edges.TERMS, "'s' symmetric:", "none of 1 and 1, both of 3 and 4");
        is(false, 's', 3, 4, 5);
        is(false, late(300), 9, 's');
        is(false, 's', 4, 5, 6, 7);
        edges.edge(Edges.TERMS, "'p' pseudo-symmetric: the Frobenius number is even, and so it is for each i but half of it;",
                "an even one, the least is 2");
        is(true, 'p', 3, 4, 5);
        is(true, 'p', 3, 5, 7);
        is(false, 'p', 5, 6, 7, 8, 9);
        edges.edge(Edges.TERMS, "'p' pseudo-symmetric:", "an odd one, and -1");
        is(false, 'p', 1);
        is(false, 'p', 2, 3);
        is(false, 'p', 4, 5, 6, 7);
        is(false, 'p', 4, 101);
    }

    private void almostSymmetric() {
        edges.edge(Edges.TERMS, "'a' almost symmetric: twice the genus is the Frobenius number and the type;",
                "all numbers, and all from a number on");
        is(true, 'a', 1);
        is(true, 'a', 2, 3);
        is(true, 'a', 5, 6, 7, 8, 9);
        is(true, late(300), 9, 'a');
        is(true, 'a', 4, 101);
        edges.edge(Edges.TERMS, "'a' almost symmetric:", "5, 6 and 13: twice 8 is 14 and 2; 5, 6 and 7: twice 6 is not 9 and 2");
        is(true, 'a', 5, 6, 13);
        is(false, 'a', 5, 6, 7);
        edges.edge(Edges.TERMS, "'m' as many generators as the multiplicity;", "1, 300, and one too few");
        is(true, 'm', 1);
        is(true, 'm', 2, 299);
        is(true, late(300), 9, 'm');
        is(true, 'm', 3, 5, 7);
        is(false, 'm', 3, 5);
        is(false, 'm', 4, 5, 7);
    }

    private void arf() {
        edges.edge(Edges.TERMS, "'r' Arf: for elements x, y, z with x and y at least z, x + y - z is an element;",
                "all numbers, two generators, all from a number on");
        is(true, 'r', 1);
        is(true, 'r', 2, 299);
        is(true, late(300), 9, 'r');
        edges.edge(Edges.TERMS, "'r' Arf:", "z is one of x and y, or the least element above 0");
        is(true, 'r', 3, 5, 7);
        is(false, 'r', 3, 5);
        edges.edge(Edges.TERMS, "'r' Arf:", "the last element below the conductor");
        // 6, 6 and 4 ask for 8; 6, 6 and 5 ask for 7.
        is(true, ofGaps(1, 2, 3, 5, 7), 0, 'r');
        is(false, ofGaps(1, 2, 3, 7), 0, 'r');
        is(false, 'r', 4, 101);
    }

    private void ordinary() {
        edges.edge(Edges.TERMS, "'o' ordinary: no element above 0 is below the conductor;", "all numbers, one gap, all from 300 on");
        is(true, 'o', 1);
        is(true, 'o', 2, 3);
        is(true, 'o', 3, 4, 5);
        is(true, late(300), 9, 'o');
        edges.edge(Edges.TERMS, "'o' ordinary:", "one element below the conductor, 2 less or far less");
        is(false, 'o', 3, 5, 7);
        is(false, 'o', 2, 5);
        is(false, 'o', 2, 299);
    }

    private void telescopic() {
        edges.edge(Edges.TERMS, "'t' telescopic: with its generators by rising numbers", "one generator, two, three");
        is(true, 't', 1);
        is(true, 't', 2, 3);
        is(true, 't', 4, 101);
        is(true, 't', 4, 6, 9);
        edges.edge(Edges.TERMS, "each one but the first, divided by the greatest common divisor of those up to it, "
                + "is an element of what those ahead of it, divided by d, generate", "9 is of 2 and 3; 5 is not of 2 and 3 and 4");
        is(true, 't', 6, 10, 15);
        is(false, 't', 3, 4, 5);
        is(false, 't', 5, 6, 7, 8);
        edges.edge(Edges.TERMS, "as sums of them, none of them too", "7 is 2, 2 and 3 by 4 and 6; 9 is 3, 3 and 3 by 6 and 8; 11 is 2, 2, 2 and 5 by 4 and 10");
        is(true, 't', 4, 6, 7);
        is(true, 't', 6, 8, 9);
        is(true, 't', 4, 10, 11);
        edges.edge(Edges.TERMS, "with its generators by rising numbers", "by 4, 6 and 5 it would be so, by 4, 5 and 6 it is not");
        is(false, 't', 4, 6, 5);
        is(true, 'c', 4, 6, 5);
    }

    private void completeIntersection() {
        edges.edge(Edges.TERMS, "'c' a complete intersection: its relations are one less than its generators.", "no relation, and one");
        is(true, 'c', 1);
        is(true, 'c', 2, 3);
        edges.edge(Edges.TERMS, "'c' a complete intersection:", "two relations for one number, and three ones of 10, 14, 15 and 21");
        is(true, 'c', 6, 10, 15);
        is(true, 'c', 10, 14, 15, 21);
        edges.edge(Edges.TERMS, "'c' a complete intersection:", "more relations than these");
        is(false, 'c', 3, 4, 5);
        is(false, 'c', 5, 6, 7, 8);
        edges.edge(16, "for a number that is looked at, for 'c'", "300 is the last number that is looked at, as for relations()");
        is(true, 'c', 12, 25);
        edges.due(1, () -> of(12, 25).relations(0));
    }

    private void unknownKinds() {
        edges.edge(16, "Returns whether a semigroup is of a kind.", "each kind, of all numbers");
        for (char kind : "samrotc".toCharArray()) {
            is(true, all(), 0, kind);
        }
        is(false, all(), 0, 'p');
        edges.edge(16, "if there is no such kind", "those beside each kind, great letters, the ends of char");
        for (char kind : "bdlnquSPAMROTC+-&|z ".toCharArray()) {
            edges.refused(ARGUMENT, () -> of(3, 5), yard -> yard.isKind(0, kind));
        }
        for (char kind : new char[] {0, 255, 256 + 's', (char) 65535}) {
            edges.refused(ARGUMENT, () -> of(3, 5), yard -> yard.isKind(0, kind));
        }
        edges.edge(16, "if there is no such kind", "where 'c' would have too many ways");
        edges.refused(ARGUMENT, () -> oneWayMore(), yard -> yard.isKind(1, 'C'));
    }

    private void manyWays() {
        edges.edge(16, "there are more than 400 ways for a number that is looked at", "400 are taken, 401 are refused");
        edges.due(400L, () -> fourHundredWays().ways(1, 300));
        is(false, fourHundredWays(), 1, 'c');
        edges.due(401L, () -> oneWayMore().ways(1, 234));
        edges.refused(UNSUPPORTED, () -> oneWayMore(), yard -> yard.isKind(1, 'c'));
        edges.due(401L, () -> oneWayMoreAtLast().ways(1, 300));
        edges.refused(UNSUPPORTED, () -> oneWayMoreAtLast(), yard -> yard.isKind(1, 'c'));
        edges.edge(16, "there are more than 400 ways for a number that is looked at", "a number that is not looked at may have more");
        // 300 has 781 ways, but the numbers that are looked at go up to 10.
        edges.due(781L, () -> of(3, 4, 5).ways(0, 300));
        is(false, 'c', 3, 4, 5);
        edges.edge(16, "for 'c'", "the other kinds look at no ways");
        for (char kind : "spamrot".toCharArray()) {
            boolean isSo = kind == 'a' || kind == 'm' || kind == 'r' || kind == 'o';
            is(isSo, fromSeventyOn(), 1, kind);
        }
    }

    // ---- the tree

    private void below() {
        edges.edge(23, "the steps, 0 to 6", "0 is itself, -1 is refused");
        edges.due(1, () -> all().below(0, 0));
        edges.due(1, () -> of(3, 5).below(0, 0));
        edges.due(1, () -> late(300).below(9, 0));
        edges.refused(ARGUMENT, () -> all(), yard -> yard.below(0, -1));
        edges.edge(23, "the steps, 0 to 6", "6 are taken, 7 are refused");
        edges.due(23, () -> all().below(0, 6));
        edges.refused(ARGUMENT, () -> all(), yard -> yard.below(0, 7));
        edges.edge(23, "if they are out of range", "the least and the greatest number");
        edges.refused(ARGUMENT, () -> all(), yard -> yard.below(0, MIN));
        edges.refused(ARGUMENT, () -> all(), yard -> yard.below(0, MAX));
        edges.edge(23, "Returns how many semigroups below one in the tree, or itself, are so many steps away.", "a leaf has none");
        for (int steps = 1; steps <= 6; steps++) {
            int away = steps;
            edges.due(0, () -> of(3, 5).below(0, away));
            edges.due(0, () -> of(4, 101).below(0, away));
        }
        edges.edge(23, "Returns how many semigroups below one in the tree, or itself, are so many steps away.", "one step away are the children");
        edges.due(1, () -> all().below(0, 1));
        edges.due(2, () -> of(2, 3).below(0, 1));
        edges.due(3, () -> of(3, 4, 5).below(0, 1));
        edges.due(1, () -> of(2, 9).below(0, 1));
        edges.edge(23, "Returns how many semigroups below one in the tree, or itself, are so many steps away.", "left ones make sums");
        // Without 11 the greatest candidate is 15, which is 5 and 10.
        edges.due(1, () -> of(4, 5, 11).below(0, 1));
        edges.due(0, () -> of(4, 5, 11).below(0, 2));
    }

    private void belowFar() {
        edges.edge(23, "if a conductor would be above 300", "300 is taken, on the last level");
        edges.due(1, () -> of(2, 297).below(0, 2));
        edges.due(1, () -> of(2, 299).below(0, 1));
        edges.edge(23, "if a conductor would be above 300", "301 and 302 are refused, on the last level and ahead of it");
        edges.refused(UNSUPPORTED, () -> late(300), yard -> yard.below(9, 1));
        edges.refused(UNSUPPORTED, () -> of(7, 295, 296, 297, 298, 299, 300), yard -> yard.below(0, 1));
        edges.refused(UNSUPPORTED, () -> of(2, 299), yard -> yard.below(0, 2));
        edges.refused(UNSUPPORTED, () -> of(2, 297), yard -> yard.below(0, 3));
        edges.refused(UNSUPPORTED, () -> of(2, 297), yard -> yard.below(0, 6));
        edges.edge(23, "if a conductor would be above 300", "without children there is none");
        edges.due(0, () -> of(4, 101).below(0, 6));
        edges.edge(23, "if they are out of range", "it is thrown first, if a conductor would be above 300 as well");
        edges.refused(ARGUMENT, () -> late(300), yard -> yard.below(9, 7));
        edges.refused(ARGUMENT, () -> late(300), yard -> yard.below(9, -1));
    }

    private void belowMany() {
        edges.edge(23, "on a level looked at there are more than 5000", "5000 are taken");
        GapYard most = of(11, 61, 62, 63, 64, 65, 67, 68, 69, 70, 71);
        edges.due(5000, () -> most.below(0, 6));
        edges.edge(23, "on a level looked at there are more than 5000", "5001 are refused, also on the last level");
        edges.refused(UNSUPPORTED, () -> of(11, 62, 63, 64, 65, 67, 68, 69, 70, 71, 72), yard -> yard.below(0, 6));
        edges.edge(23, "on a level looked at there are more than 5000", "the levels ahead of it are taken");
        // As if each generator could be taken out, whatever went before: choices with repetition.
        int[] levels = {1, 10, 55, 220, 715, 2002};
        for (int i = 0; i < levels.length; i++) {
            int steps = i;
            edges.due(levels[i], () -> of(11, 62, 63, 64, 65, 67, 68, 69, 70, 71, 72).below(0, steps));
        }
        edges.edge(23, "on a level looked at there are more than 5000", "on a level ahead of the last one");
        edges.due(70, () -> fromSeventyOn().below(1, 1));
        edges.due(71 + 69 * 68 / 2 + 1, () -> fromSeventyOn().below(1, 2));
        edges.refused(UNSUPPORTED, () -> fromSeventyOn(), yard -> yard.below(1, 3));
        edges.refused(UNSUPPORTED, () -> fromSeventyOn(), yard -> yard.below(1, 6));
    }
}
