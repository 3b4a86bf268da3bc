import java.util.Random;
import java.util.function.LongSupplier;

/** Any calls with any arguments: only what the document names is thrown, and it is counted; the same calls answer the same. */
public final class AnyCallsTest {
    private static final int[] EDGES = {
        Integer.MIN_VALUE, Integer.MIN_VALUE + 1, -1000, -2, -1, 0, 1, 2, 3, 5, 6, 7, 9, 10, 11, 12, 15, 16, 17, 20, 35, 36, 59, 60, 61,
        99, 100, 119, 120, 121, 199, 200, 201, 499, 500, 501, 999, 1000, 9999, 10000, Integer.MAX_VALUE - 1, Integer.MAX_VALUE
    };
    private static final String[] PIECES = {
        "wall 3 1;", "wall 99 0;", "wall 30 50;", "duke 999 99 9;", "enemy 1 1 1;", "town 9999 100;", "fear 100 50 1;", "near 0 20;",
        "mason 0;", "cost 0 9;", "pay 3;", "winter 999;", "corks 99;", "breach 0 0;", "breach 1 2;", "bonus 99;", "till 1;", "till 36;",
        " ", ";", "wall", "0", "x", "\u00ff", "pay 1000;"
    };

    private int refused0;
    private int refused1;
    private int refused2;

    public static void main(String[] args) {
        for (int seed = 0; seed < 400; seed++) {
            AnyCallsTest once = new AnyCallsTest();
            AnyCallsTest again = new AnyCallsTest();
            Check.same("the same calls, seed " + seed, once.run(seed), again.run(seed));
        }
        Check.end("AnyCallsTest");
    }

    private String run(int seed) {
        Random random = new Random(seed);
        HiredEnemy x = new HiredEnemy();
        StringBuilder all = new StringBuilder();
        for (int i = 0; i < 512; i++) {
            int choice = random.nextInt(36);
            String answer = choice >= 34 ? text(x, random) : Check.answer(call(x, choice, random));
            count(choice, answer);
            all.append(choice).append(' ').append(answer).append('\n');
            if (x.sums(0) < 0 || x.sums(1) < 0 || x.sums(2) < 0 || x.sums(5) < 0 || x.sums(5) > 100 || x.sums(3) < 0 || x.sums(4) < 0) {
                Check.same("a sum out of range, seed " + seed, 1, 0);
            }
        }
        Check.due("33: contracts, seed " + seed, () -> x.status(0), refused0);
        Check.due("33: walls, seed " + seed, () -> x.status(1), refused1);
        Check.due("33: arguments, seed " + seed, () -> x.status(2), refused2);
        return all.toString();
    }

    private void count(int choice, String answer) {
        if (answer.equals("NoSuchElementException")) {
            refused0++;
        } else if (answer.equals("IndexOutOfBoundsException")) {
            refused1++;
        } else if (answer.equals("IllegalArgumentException")) {
            refused2++;
        } else if (answer.endsWith("n") || answer.endsWith("r")) {
            Check.same("call " + choice, answer, "no such exception");
        }
    }

    private static int any(Random random) {
        switch (random.nextInt(4)) {
            case 0:
                return EDGES[random.nextInt(EDGES.length)];
            case 1:
                return random.nextInt(13) - 1;
            default:
                return random.nextInt(5);
        }
    }

    private static String text(HiredEnemy x, Random random) {
        StringBuilder text = new StringBuilder();
        for (int i = random.nextInt(12); i > 0; i--) {
            text.append(PIECES[random.nextInt(random.nextBoolean() ? 10 : PIECES.length)]);
        }
        boolean siege = random.nextInt(3) == 0;
        return Check.answer(() -> siege ? Check.siege(x, text.toString()) : Check.contract(x, text.toString()));
    }

    private static LongSupplier call(HiredEnemy x, int choice, Random random) {
        int a = any(random);
        int b = any(random);
        int c = any(random);
        switch (choice) {
            case 0: return () -> x.feed(a, b, c, a, b);
            case 1: return () -> x.siege(a);
            case 2: return () -> x.contract(a);
            case 3: return x::fault;
            case 4: return () -> x.told(a);
            case 5: return () -> x.wall(a, b);
            case 6: return () -> x.rule(a, b);
            case 7: return () -> x.wants(a, b);
            case 8: return () -> x.sign(a);
            case 9: return () -> x.months(a);
            case 10: return () -> x.undo(a);
            case 11: return () -> x.sums(a);
            case 12: return () -> x.corks(a, b);
            case 13: return () -> x.would(a, b, c);
            case 14: return () -> x.best(a, b);
            case 15: return () -> x.offer(a, b);
            case 16: return () -> x.nearest(a, b);
            case 17: return () -> x.stop(a, b);
            case 18: return () -> {
                x.odds(a, b);
                return 0;
            };
            case 19: return () -> {
                x.kind(a, b, c);
                return 0;
            };
            case 20: return () -> x.seen(a);
            case 21: return () -> x.spy(b > 2, a);
            case 22: return () -> x.believed(a);
            case 23: return () -> x.earnest(a, b, c);
            case 24: return () -> x.stands(a, b);
            case 25: return () -> x.show(a, b);
            case 26: return () -> x.offers(a, b, c);
            case 27: return x::most;
            case 28: return () -> x.serves(a);
            case 29: return x::image;
            case 30: return x::restore;
            case 31: return () -> x.status(a);
            case 32: return () -> x.count(a);
            default: return () -> x.months(120);
        }
    }
}
