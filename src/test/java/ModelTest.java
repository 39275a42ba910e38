import java.util.concurrent.Callable;

/** Runs of up to 512 calls, chosen by a fixed rule, on the class and on the model: all answers must be alike. */
public final class ModelTest {
    private static final char[] KINDS = {'s', 'p', 'a', 'm', 'r', 'o', 't', 'c', 'b', 'u', '+', '-', '&', '|', 'z', (char) 0};

    private long seed;
    private GapYard yard;
    private Model model;
    private int wrong;
    private final StringBuilder log = new StringBuilder();
    private int size;
    private int base;

    public static void main(String[] args) {
        int runs = args.length > 0 ? Integer.parseInt(args[0]) : 160;
        int first = args.length > 1 ? Integer.parseInt(args[1]) : 1;
        ModelTest test = new ModelTest();
        for (int run = first; run < first + runs && test.wrong == 0; run++) {
            test.run(run);
        }
        System.out.println(test.wrong == 0 ? "all answers are the model's" : "answers differ");
        if (test.wrong != 0) {
            System.exit(1);
        }
    }

    private void run(int number) {
        seed = number * 7919L;
        size = number % 5;
        yard = new GapYard();
        model = new Model();
        log.setLength(0);
        for (int call = 0; call < 300 && wrong == 0; call++) {
            step();
        }
        if (wrong != 0) {
            System.out.println("run " + number + ":\n" + log);
        }
    }

    private int below(int bound) {
        seed = seed * 6364136223846793005L + 1442695040888963407L;
        return (int) ((seed >>> 33) % bound);
    }

    private int number() {
        switch (below(12)) {
            case 0:
                return below(310) - 5;
            case 1:
                return below(3) == 0 ? Integer.MIN_VALUE + below(3) : Integer.MAX_VALUE - below(3);
            case 2:
                return 298 + below(4);
            case 3:
                return below(301);
            default:
                return below(60);
        }
    }

    private int typedNumber() {
        switch (size) {
            case 0:
                return 1 + below(12);
            case 1:
                return 2 + below(40);
            case 2:
                return below(3) == 0 ? below(301) : 5 + below(60);
            case 3:
                return below(10) == 0 ? below(303) - 1 : 1 + below(120);
            default:
                return base + below(base);
        }
    }

    private int one() {
        return below(12) == 0 ? below(14) - 2 : below(Math.max(1, model.yardSize()));
    }

    private int anIdeal() {
        return below(12) == 0 ? below(12) - 2 : below(Math.max(1, model.idealsSize()));
    }

    private char kind(String likely) {
        return below(9) == 0 ? KINDS[below(KINDS.length)] : likely.charAt(below(likely.length()));
    }

    private void fillRow() {
        int many = size == 4 ? 8 + below(5) : 2 + below(4);
        base = 20 + below(90);
        for (int i = 0; i < many; i++) {
            int typed = typedNumber();
            compare("type(" + typed + ")", () -> yard.type(typed), () -> model.type(typed));
        }
    }

    private void fillIdealRow() {
        int many = 1 + below(3);
        for (int i = 0; i < many; i++) {
            int typed = below(4) == 0 ? below(301) : 120 + below(60);
            compare("type(" + typed + ")", () -> yard.type(typed), () -> model.type(typed));
        }
    }

    private void step() {
        if (model.yardSize() == 10 && below(3) == 0) {
            compare("drop()", yard::drop, model::drop);
        }
        if (model.idealsSize() == 8 && below(3) == 0) {
            compare("dropIdeal()", yard::dropIdeal, model::dropIdeal);
        }
        switch (below(6)) {
            case 0:
                stepRow();
                break;
            case 1:
                stepNew();
                break;
            case 2:
                stepAsk();
                break;
            case 3:
                stepWays();
                break;
            case 4:
                stepIdeals();
                break;
            default:
                stepGames();
        }
    }

    private void stepRow() {
        int what = below(10);
        if (what == 0) {
            compare("wipe()", yard::wipe, model::wipe);
        } else if (what == 1) {
            int n = number();
            compare("type(" + n + ")", () -> yard.type(n), () -> model.type(n));
        } else if (what < 4) {
            compare("wipe()", yard::wipe, model::wipe);
            int top = 1 + below(5);
            for (int gap = 1; gap <= top; gap++) {
                int g = gap;
                compare("type(" + g + ")", () -> yard.type(g), () -> model.type(g));
            }
            int extra = top + 1 + below(6);
            if (below(2) == 0) {
                compare("type(" + extra + ")", () -> yard.type(extra), () -> model.type(extra));
            }
            compare("fromGaps()", yard::fromGaps, model::fromGaps);
        } else {
            if (below(3) > 0) {
                compare("wipe()", yard::wipe, model::wipe);
            }
            fillRow();
            compare("semigroup()", yard::semigroup, model::semigroup);
        }
    }

    private void stepNew() {
        int s = one();
        int other = one();
        int n = number();
        switch (below(7)) {
            case 0:
            case 1: {
                char kind = kind("rbu");
                compare("closure(" + s + ", " + kind + ")", () -> yard.closure(s, kind), () -> model.closure(s, kind));
                break;
            }
            case 2: {
                int d = below(3) == 0 ? n : 1 + below(6);
                compare("quotient(" + s + ", " + d + ")", () -> yard.quotient(s, d), () -> model.quotient(s, d));
                break;
            }
            case 3:
                compare("meet(" + s + ", " + other + ", false)", () -> yard.meet(s, other, false), () -> model.meet(s, other, false));
                break;
            case 4:
                compare("meet(" + s + ", " + other + ", true)", () -> yard.meet(s, other, true), () -> model.meet(s, other, true));
                break;
            case 5: {
                int index = below(8) == 0 ? n : below(5);
                compare("without(" + s + ", " + index + ")", () -> yard.without(s, index), () -> model.without(s, index));
                break;
            }
            default:
                if (below(4) == 0) {
                    compare("drop()", yard::drop, model::drop);
                }
        }
    }

    private void stepAsk() {
        int s = one();
        int n = number();
        int small = below(8) == 0 ? n : below(8);
        switch (below(15)) {
            case 0:
                compare("has(" + s + ", " + n + ")", () -> yard.has(s, n), () -> model.has(s, n));
                break;
            case 1:
                compare("frobenius(" + s + ")", () -> yard.frobenius(s), () -> model.frobenius(s));
                break;
            case 2:
                compare("genus(" + s + ")", () -> yard.genus(s), () -> model.genus(s));
                break;
            case 3:
                compare("gap(" + s + ", " + small + ")", () -> yard.gap(s, small), () -> model.gap(s, small));
                break;
            case 4:
                compare("generators(" + s + ")", () -> yard.generators(s), () -> model.generators(s));
                break;
            case 5:
                compare("generator(" + s + ", " + small + ")", () -> yard.generator(s, small), () -> model.generator(s, small));
                break;
            case 6: {
                int index = below(4) == 0 ? small : below(Math.max(1, Math.min(300, n)));
                compare("apery(" + s + ", " + n + ", " + index + ")", () -> yard.apery(s, n, index), () -> model.apery(s, n, index));
                break;
            }
            case 7:
                compare("typeOf(" + s + ")", () -> yard.typeOf(s), () -> model.typeOf(s));
                break;
            case 8:
                compare("pseudo(" + s + ", " + small + ")", () -> yard.pseudo(s, small), () -> model.pseudo(s, small));
                break;
            case 9:
                compare("wilf(" + s + ")", () -> yard.wilf(s), () -> model.wilf(s));
                break;
            case 10:
                compare("children(" + s + ")", () -> yard.children(s), () -> model.children(s));
                break;
            case 11: {
                int steps = below(6) == 0 ? n : below(4);
                compare("below(" + s + ", " + steps + ")", () -> yard.below(s, steps), () -> model.below(s, steps));
                break;
            }
            default: {
                char kind = kind("spamrotc");
                compare("isKind(" + s + ", " + kind + ")", () -> yard.isKind(s, kind), () -> model.isKind(s, kind));
            }
        }
    }

    private void stepWays() {
        int s = one();
        int n = number();
        boolean is = below(2) == 0;
        switch (below(9)) {
            case 0:
                compare("ways(" + s + ", " + n + ")", () -> yard.ways(s, n), () -> model.ways(s, n));
                break;
            case 1:
                compare("lengthOf(" + s + ", " + n + ", " + is + ")", () -> yard.lengthOf(s, n, is), () -> model.lengthOf(s, n, is));
                break;
            case 2:
                compare("lengths(" + s + ", " + n + ")", () -> yard.lengths(s, n), () -> model.lengths(s, n));
                break;
            case 3:
                compare("deltas(" + s + ", " + n + ")", () -> yard.deltas(s, n), () -> model.deltas(s, n));
                break;
            case 4:
                compare("elasticity(" + s + ", " + is + ")", () -> yard.elasticity(s, is), () -> model.elasticity(s, is));
                break;
            case 5:
                compare("catenary(" + s + ", " + n + ")", () -> yard.catenary(s, n), () -> model.catenary(s, n));
                break;
            case 6:
                compare("parts(" + s + ", " + n + ")", () -> yard.parts(s, n), () -> model.parts(s, n));
                break;
            case 7:
                compare("bettis(" + s + ")", () -> yard.bettis(s), () -> model.bettis(s));
                break;
            default:
                compare("relations(" + s + ")", () -> yard.relations(s), () -> model.relations(s));
        }
    }

    private void stepIdeals() {
        int s = one();
        int i = anIdeal();
        int other = anIdeal();
        switch (below(12)) {
            case 0:
            case 1:
                if (below(4) > 0) {
                    compare("wipe()", yard::wipe, model::wipe);
                }
                if (below(8) > 0) {
                    fillIdealRow();
                }
                compare("ideal(" + s + ")", () -> yard.ideal(s), () -> model.ideal(s));
                break;
            case 2:
                compare("canonical(" + s + ")", () -> yard.canonical(s), () -> model.canonical(s));
                break;
            case 3:
            case 4:
            case 5: {
                char kind = kind("+-&|");
                compare("combine(" + i + ", " + other + ", " + kind + ")", () -> yard.combine(i, other, kind), () -> model.combine(i, other, kind));
                break;
            }
            case 6:
                compare("dual(" + i + ")", () -> yard.dual(i), () -> model.dual(i));
                break;
            case 7:
                if (below(4) == 0) {
                    compare("dropIdeal()", yard::dropIdeal, model::dropIdeal);
                }
                break;
            case 8: {
                int n = below(2) == 0 ? number() : below(700) - 320;
                compare("isIn(" + i + ", " + n + ")", () -> yard.isIn(i, n), () -> model.isIn(i, n));
                break;
            }
            case 9:
                compare("needs(" + i + ")", () -> yard.needs(i), () -> model.needs(i));
                break;
            case 10:
                compare("least(" + i + ")", () -> yard.least(i), () -> model.least(i));
                break;
            default:
                compare("areMoved(" + i + ", " + other + ")", () -> yard.areMoved(i, other), () -> model.areMoved(i, other));
        }
    }

    private void stepGames() {
        int s = one();
        int n = number();
        switch (below(13)) {
            case 0:
                compare("coefficient(" + s + ", " + n + ")", () -> yard.coefficient(s, n), () -> model.coefficient(s, n));
                break;
            case 1:
                compare("pairs(" + s + ", " + n + ")", () -> yard.pairs(s, n), () -> model.pairs(s, n));
                break;
            case 2:
                compare("bound(" + s + ", " + n + ")", () -> yard.bound(s, n), () -> model.bound(s, n));
                break;
            case 3:
                compare("wins(" + s + ")", () -> yard.wins(s), () -> model.wins(s));
                break;
            case 4:
                compare("greed(" + s + ", " + n + ")", () -> yard.greed(s, n), () -> model.greed(s, n));
                break;
            case 5:
                compare("isGreedy(" + s + ", " + n + ")", () -> yard.isGreedy(s, n), () -> model.isGreedy(s, n));
                break;
            case 6: {
                int stamps = below(22);
                compare("stamps(" + stamps + ")", () -> yard.stamps(stamps), () -> model.stamps(stamps));
                break;
            }
            case 7: {
                int times = below(12) - 1;
                compare("sums(" + times + ")", () -> yard.sums(times), () -> model.sums(times));
                break;
            }
            case 8:
                compare("nim(" + s + ", " + n + ")", () -> yard.nim(s, n), () -> model.nim(s, n));
                break;
            case 9:
                compare("share(" + s + ")", () -> yard.share(s), () -> model.share(s));
                break;
            case 10:
                compare("meanGenus()", yard::meanGenus, model::meanGenus);
                break;
            case 11:
                compare("checksum()", yard::checksum, model::checksum);
                break;
            default:
                compare("isSound()", yard::isSound, model::isSound);
        }
    }

    private void compare(String call, Callable<?> got, Callable<?> due) {
        String answer = answer(got);
        String wanted = answer(due);
        log.append("  ").append(call).append(" -> ").append(answer).append('\n');
        if (!answer.equals(wanted)) {
            wrong++;
            log.append("  due is ").append(wanted).append('\n');
        }
    }

    private static String answer(Callable<?> call) {
        try {
            return String.valueOf(call.call());
        } catch (Exception e) {
            return "throws " + e.getClass().getSimpleName();
        }
    }
}
