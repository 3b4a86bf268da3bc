import java.util.function.LongSupplier;
import java.util.function.LongUnaryOperator;

/** What all tests share: texts fed as numbers, answers compared, refusals told by name. */
final class Check {
    private static int wrong;
    private static int looked;
    private static String about = "";

    private Check() {
    }

    /** Answers of a call: its number, or the simple name of what it threw. */
    static String answer(LongSupplier call) {
        try {
            return Long.toString(call.getAsLong());
        } catch (RuntimeException e) {
            return e.getClass().getSimpleName();
        }
    }

    static void due(String what, LongSupplier call, long want) {
        same(what, answer(call), Long.toString(want));
    }

    static void same(String what, String got, String want) {
        looked++;
        if (!got.equals(want)) {
            wrong++;
            if (wrong <= 50) {
                System.out.println((about.isEmpty() ? "" : "[" + about + "] ") + what + " answered " + got + ", due is " + want);
            }
        }
    }

    static void same(String what, long got, long want) {
        same(what, Long.toString(got), Long.toString(want));
    }

    /** What the checks that follow are about. */
    static void about(String sentence) {
        about = sentence;
    }

    static int looked() {
        return looked;
    }

    static void illegal(String what, LongSupplier call) {
        same(what, answer(call), "IllegalArgumentException");
    }

    static void noWall(String what, LongSupplier call) {
        same(what, answer(call), "IndexOutOfBoundsException");
    }

    static void noContract(String what, LongSupplier call) {
        same(what, answer(call), "NoSuchElementException");
    }

    static void illegalDo(String what, Runnable call) {
        illegal(what, () -> {
            call.run();
            return 0;
        });
    }

    /** Feeds a text, filled up with zeros to the next twenty. */
    static void feed(HiredEnemy x, String text) {
        for (int from = 0; from < text.length(); from += 20) {
            x.feed(four(text, from), four(text, from + 4), four(text, from + 8), four(text, from + 12), four(text, from + 16));
        }
    }

    private static int four(String text, int from) {
        int n = 0;
        for (int i = from; i < from + 4; i++) {
            n = n << 8 | (i < text.length() ? text.charAt(i) & 255 : 0);
        }
        return n;
    }

    static int siege(HiredEnemy x, String text) {
        feed(x, text);
        return x.siege(text.length());
    }

    static int contract(HiredEnemy x, String text) {
        feed(x, text);
        return x.contract(text.length());
    }

    static HiredEnemy with(String siege, String... contracts) {
        HiredEnemy x = new HiredEnemy();
        int walls = siege(x, siege);
        if (walls < 0) {
            same("a siege that a test tells: " + siege, walls, 0);
        }
        for (int i = 0; i < contracts.length; i++) {
            same("a contract that a test tells: " + contracts[i], contract(x, contracts[i]), i);
        }
        return x;
    }

    /** All that the face tells of the months, as one text. */
    static String state(HiredEnemy x) {
        StringBuilder all = new StringBuilder();
        for (int i = 0; i < 5; i++) {
            all.append(x.told(i)).append(' ');
        }
        for (int i = 0; i < 10; i++) {
            all.append(x.sums(i)).append(' ');
        }
        for (int w = 0; w < x.told(0); w++) {
            for (int i = 0; i < 4; i++) {
                all.append(x.wall(w, i)).append(' ');
            }
            for (int m = 0; m < 120; m++) {
                all.append(x.corks(m, w)).append(' ');
            }
        }
        return all.toString();
    }

    /** All that the face tells without changing anything. */
    static String whole(HiredEnemy x) {
        StringBuilder all = new StringBuilder(state(x));
        for (int c = 0; c < x.told(1); c++) {
            for (int i = 0; i < 7; i++) {
                all.append(x.rule(c, i)).append(' ');
            }
        }
        all.append(x.fault()).append(' ').append(x.believed(0)).append(' ').append(x.believed(1)).append(' ').append(x.most()).append(' ');
        for (int i = 0; i < 12; i++) {
            all.append(x.serves(i)).append(' ');
        }
        for (int i = 0; i < 3; i++) {
            all.append(x.count(i)).append(' ');
        }
        for (int r = 0; r <= 9; r++) {
            all.append(x.wants(r, 7)).append(' ');
        }
        return all.toString();
    }

    /** A call that is refused: by this exception, counted once for this reason, and all stays. */
    static void refused(String what, HiredEnemy x, String exception, LongSupplier call) {
        String[] reasons = {"NoSuchElementException", "IndexOutOfBoundsException", "IllegalArgumentException"};
        String before = whole(x);
        int[] counted = {x.status(0), x.status(1), x.status(2)};
        same(what, answer(call), exception);
        for (int i = 0; i < 3; i++) {
            same(what + ", status(" + i + ")", x.status(i), counted[i] + (reasons[i].equals(exception) ? 1 : 0));
        }
        same(what + ", all stays", whole(x), before);
    }

    static void refusedArgument(String what, HiredEnemy x, LongSupplier call) {
        refused(what, x, "IllegalArgumentException", call);
    }

    /** Each of the numbers just outside of low to high, and far outside, is refused. */
    static void outside(String what, HiredEnemy x, int low, int high, LongUnaryOperator call) {
        for (int n : new int[] {low - 1, high + 1, Integer.MIN_VALUE, Integer.MAX_VALUE, low - 256, high + 65536}) {
            refusedArgument(what + " " + n, x, () -> call.applyAsLong(n));
        }
    }

    /** Each of the numbers of low to high is taken. */
    static void inside(String what, int low, int high, LongUnaryOperator call) {
        for (int n = low; n <= high; n++) {
            int number = n;
            String got = answer(() -> call.applyAsLong(number));
            same(what + " " + n + " is taken", got.endsWith("Exception") ? got : "taken", "taken");
        }
    }

    static void end(String test) {
        System.out.println(test + ": " + looked + " answers looked at, " + wrong + " wrong");
        if (wrong != 0 || looked == 0) {
            System.exit(1);
        }
    }
}
