import java.util.concurrent.Callable;

/** Compares answers with those that are due, and counts the wrong ones. */
final class Check {
    private int wrong;
    private int done;
    private String part = "";

    /** Names the promise that the next answers belong to. */
    void part(String name) {
        part = name;
    }

    void due(Object wanted, Callable<?> call) {
        String got = answer(call);
        done++;
        if (!got.equals(String.valueOf(wanted))) {
            wrong++;
            System.out.println(part + ": answer " + done + ": got " + got + ", due is " + wanted
                    + " at " + place());
        }
    }

    /** The call must throw just this exception, and nothing that can be asked may have changed. */
    void fails(GapYard yard, Class<? extends Exception> wanted, Callable<?> call) {
        String before = stateOf(yard);
        due("throws " + wanted.getName(), call);
        String after = stateOf(yard);
        if (!before.equals(after)) {
            wrong++;
            System.out.println(part + ": a call that threw changed\n" + before + "\nto\n" + after + " at " + place());
        }
    }

    /** All calls but these would throw for no such semigroup or ideal, or an empty row. */
    private static String stateOf(GapYard yard) {
        StringBuilder state = new StringBuilder();
        state.append(yard.checksum());
        for (int s = 0; s <= 10; s++) {
            int semigroup = s;
            state.append(' ').append(answer(() -> yard.generators(semigroup)));
        }
        for (int i = 0; i <= 8; i++) {
            int ideal = i;
            state.append(' ').append(answer(() -> yard.least(ideal))).append(answer(() -> yard.needs(ideal)));
            for (int n = -310; n <= 610; n += 1) {
                int number = n;
                state.append(answer(() -> yard.isIn(ideal, number)).charAt(0));
            }
        }
        for (int times = 0; times <= 3; times++) {
            int k = times;
            state.append(' ').append(answer(() -> yard.sums(k)));
        }
        return state.append(' ').append(answer(() -> yard.stamps(3))).toString();
    }

    private static String answer(Callable<?> call) {
        try {
            return String.valueOf(call.call());
        } catch (Exception e) {
            return "throws " + e.getClass().getName();
        }
    }

    private static String place() {
        for (StackTraceElement element : new Throwable().getStackTrace()) {
            if (!element.getClassName().equals("Check")) {
                return element.toString();
            }
        }
        return "";
    }

    void end() {
        System.out.println(wrong == 0 ? done + " answers are as due" : wrong + " of " + done + " answers are not as due");
        if (wrong != 0) {
            System.exit(1);
        }
    }
}
