import java.util.Arrays;
import java.util.function.Supplier;
import java.util.function.ToLongFunction;

/** Compares answers with those that are due, and counts what is wrong. */
final class Check {
    /** A call, whose answer is a long; a boolean counts 1 or 0. */
    interface Call {
        long run();
    }

    private static final int TYPED_FULL = 40;

    private int wrong;
    private int compared;

    void due(String what, long got, long want) {
        compared++;
        if (got != want) {
            wrong++;
            System.out.println(what + " answered " + got + ", due is " + want);
        }
    }

    void due(String what, boolean got, boolean want) {
        due(what, got ? 1 : 0, want ? 1 : 0);
    }

    void dueText(String what, String got, String want) {
        compared++;
        if (!got.equals(want)) {
            wrong++;
            System.out.println(what + " answered " + got + ", due is " + want);
        }
    }

    static long bit(boolean is) {
        return is ? 1 : 0;
    }

    /** The call has to throw an exception of exactly this kind. */
    void thrown(String what, Class<? extends RuntimeException> kind, Call call) {
        compared++;
        String got;
        try {
            got = "" + call.run();
        } catch (RuntimeException e) {
            if (e.getClass() == kind) {
                return;
            }
            got = e.toString();
        }
        wrong++;
        System.out.println(what + " answered " + got + ", due is " + kind.getName());
    }

    /** The call is refused, and then all that the calls show is as if it had not been. */
    void refused(String what, Class<? extends RuntimeException> kind, Supplier<Operadry> made,
            ToLongFunction<Operadry> call) {
        thrown(what, kind, () -> call.applyAsLong(made.get()));
        for (int part = 0; part < State.PARTS; part++) {
            Operadry asked = made.get();
            try {
                call.applyAsLong(asked);
            } catch (RuntimeException e) {
                dueText(what + ", part " + part + " of what is shown then", State.tell(asked, part),
                        State.tell(made.get(), part));
            }
        }
    }

    /** Tells what was found, and ends the program: with 1 if there was something wrong. */
    void end() {
        System.out.println(compared + " answers compared, " + wrong + " wrong");
        if (wrong > 0) {
            System.exit(1);
        }
    }

    /** Types a row of digits, ahead of which all is wiped. */
    static void row(Operadry x, String digits) {
        x.wipe();
        for (int i = 0; i < digits.length(); i++) {
            x.type(digits.charAt(i) - '0');
        }
    }

    static int tree(Operadry x, String digits) {
        row(x, digits);
        return x.tree();
    }

    static int shrub(Operadry x, String digits) {
        row(x, digits);
        return x.shrub();
    }

    static int word(Operadry x, String digits) {
        row(x, digits);
        return x.word();
    }

    /** A new sum of trees; each part is an amount and the row of a tree, with a space between. */
    static int sum(Operadry x, String... parts) {
        int sum = x.sum();
        for (String part : parts) {
            String[] both = part.split(" ");
            x.add(sum, tree(x, both[1]), Integer.parseInt(both[0]));
        }
        return sum;
    }

    /** The row of a kept tree. */
    static String tree(Operadry x, int tree) {
        StringBuilder digits = new StringBuilder();
        for (int place = 0; place < TYPED_FULL; place++) {
            try {
                digits.append(x.signAt(tree, place));
            } catch (java.util.NoSuchElementException e) {
                return digits.toString();
            }
        }
        return digits.toString();
    }

    /** The terms of a sum, each as an amount and the row of its tree. */
    static String terms(Operadry x, int sum) {
        String[] parts = new String[x.terms(sum)];
        for (int term = 0; term < parts.length; term++) {
            StringBuilder part = new StringBuilder().append(x.amount(sum, term)).append(' ');
            boolean isEnd = false;
            for (int place = 0; place < TYPED_FULL && !isEnd; place++) {
                try {
                    part.append(x.termSign(sum, term, place));
                } catch (java.util.NoSuchElementException e) {
                    isEnd = true;
                }
            }
            parts[term] = part.toString();
        }
        return Arrays.toString(parts);
    }
}
