import java.util.Random;

/** Promises 15 to 19: what would be, BEST, OFFERS, HOW NEAR, STOP; nothing stays changed. */
public final class TryingTest {
    public static void main(String[] args) {
        arguments();
        byHand();
        nearest();
        byOracle();
        late();
        Check.end("TryingTest");
    }

    private static void arguments() {
        HiredEnemy x = Check.with("wall 9 0;", "corks 1;");
        for (int n : new int[] {0, 61, -1, Integer.MAX_VALUE, Integer.MIN_VALUE}) {
            Check.illegal("15: n " + n, () -> x.would(0, n, 0));
            Check.illegal("16: n " + n, () -> x.best(n, 0));
            Check.illegal("17: n " + n, () -> x.offer(n, 0));
            Check.illegal("19: n " + n, () -> x.stop(n, 0));
        }
        Check.illegal("15: what -1", () -> x.would(0, 1, -1));
        Check.illegal("15: what 10", () -> x.would(0, 1, 10));
        Check.noContract("15: contract 1", () -> x.would(1, 1, 0));
        Check.noContract("15: contract -2", () -> x.would(-2, 1, 0));
        Check.noContract("15: all wrong", () -> x.would(1, 0, 10));
        Check.illegal("16: what -1", () -> x.best(1, -1));
        Check.illegal("16: what 2", () -> x.best(1, 2));
        Check.illegal("17: what -1", () -> x.offer(1, -1));
        Check.illegal("17: what 4", () -> x.offer(1, 4));
        Check.illegal("18: pay -1", () -> x.nearest(-1, 0));
        Check.illegal("18: pay 10000", () -> x.nearest(10000, 0));
        Check.illegal("18: corks -1", () -> x.nearest(0, -1));
        Check.illegal("18: corks 100", () -> x.nearest(0, 100));
        Check.illegal("19: what -1", () -> x.stop(1, -1));
        Check.illegal("19: what 2", () -> x.stop(1, 2));
        Check.due("33: all counted", () -> x.status(2) * 10 + x.status(0), 323);
    }

    private static void byHand() {
        String flat = "duke 500 0 0;enemy 0 0 0;fear 0 0 0;";
        HiredEnemy same = Check.with(flat, "pay 2;", "pay 1;", "pay 1;", "");
        Check.due("16: the first of the best, none last", () -> same.best(60, 0), 3);
        Check.due("16: its coin", () -> same.best(60, 1), 500);
        HiredEnemy dear = Check.with(flat, "pay 2;", "pay 1;", "pay 1;");
        Check.due("16: none is best", () -> dear.best(5, 0), -1);
        Check.due("17: for nothing: the first", () -> Check.with(flat + "cost 0 0;").offer(9, 0), 0);
        HiredEnemy cheap = Check.with(flat + "cost 2 0;");
        Check.due("17: R", () -> cheap.offer(60, 0), 9);
        Check.due("17: corks, the first", () -> cheap.offer(60, 1), 0);
        Check.due("17: pay", () -> cheap.offer(60, 2), 2);
        Check.due("17: paid for all 60", () -> cheap.offer(60, 3), 380);
        String deaf = "near 0 0;near 1 0;near 2 0;near 3 0;near 4 0;near 5 0;near 6 0;near 7 0;near 8 0;";
        String loud = "mason 0;cost 1 0;duke 9 900 0;town 9999 100;fear 0 50 0;" + deaf;
        HiredEnemy twenty = Check.with("wall 20 50;" + loud);
        Check.due("17: up to 20 corks", () -> twenty.offer(2, 0) * 100 + twenty.offer(2, 1), 920);
        HiredEnemy more = Check.with("wall 21 50;" + loud);
        Check.due("17: not 21, so nearer, where every second takes 2", () -> more.offer(2, 0) * 100 + more.offer(2, 1), 414);
        HiredEnemy stop = Check.with(flat, "pay 9;");
        stop.sign(0);
        Check.due("19: at once", () -> stop.stop(10, 0), 0);
        Check.due("19: coin", () -> stop.stop(10, 1), 500);
        HiredEnemy worth = Check.with("duke 100 900 0;enemy 0 0 0;town 9999 100;fear 0 0 0;", "pay 50;winter 50;near 0;till 2;", "pay 60;near 0;");
        worth.sign(0);
        Check.due("19: pays as long as it pays", () -> worth.stop(10, 0), 2);
        worth.sign(1);
        Check.due("19: the last month's fear comes too late", () -> worth.stop(1, 0), 0);
        Check.due("19: none in force", () -> Check.with(flat, "pay 1;").stop(7, 0), 0);
        HiredEnemy both = Check.with(flat, "pay 5;", "pay 1;");
        both.sign(0);
        both.months(1);
        Check.due("15: in place of what is in force", () -> both.would(1, 2, 0), 493);
        Check.due("15: none", () -> both.would(-1, 2, 0), 495);
        Check.due("15: signed now", () -> both.would(0, 2, 1), 15);
    }

    private static void nearest() {
        HiredEnemy x = Check.with("cost 7 3;");
        for (int pay = 0; pay < 420; pay++) {
            for (int corks = 0; corks < 100; corks += 9) {
                int due = -1;
                for (int r = 9; r >= 0 && 7 + 3 * corks + 7 * (9 - r) <= pay; r--) {
                    due = r;
                }
                int p = pay;
                int c = corks;
                Check.due("18: nearest(" + pay + ", " + corks + ")", () -> x.nearest(p, c), due);
            }
        }
        HiredEnemy dear = Check.with("cost 99 99;");
        Check.due("18: 9,999 for 99 corks", () -> dear.nearest(9999, 99), 8);
        Check.due("18: 9,899 for 99 corks", () -> dear.nearest(9899, 99), -1);
        Check.due("18: for nothing", () -> Check.with("cost 0 0;").nearest(0, 99), 0);
    }

    /** The oracle as it is after these steps: SIGNED at first, then some MONTHS. */
    private static Oracle led(Told told, int first, int months) {
        Oracle o = told.oracle();
        o.sign(first < 0 ? null : told.rules.get(first));
        run(o, months);
        return o;
    }

    private static void run(Oracle o, int n) {
        for (int i = 0; i < n && o.month < 120; i++) {
            o.pass();
        }
    }

    private static void byOracle() {
        Random random = new Random(15);
        for (int run = 0; run < 60; run++) {
            Told told = new Told(random);
            int first = random.nextInt(told.rules.size() + 1) - 1;
            int ahead = random.nextInt(random.nextBoolean() ? 12 : 121);
            int n = 1 + random.nextInt(random.nextBoolean() ? 12 : 60);
            HiredEnemy x = told.object();
            x.sign(first);
            if (ahead > 0) {
                x.months(ahead);
            }
            String before = Check.state(x);
            String where = " in run " + run + " of " + told.siege + told.contracts + " " + first + " " + ahead + " " + n;
            would(x, told, first, ahead, n, where);
            offer(x, told, first, ahead, n, where);
            stop(x, told, first, ahead, n, where);
            Check.same("15 to 19: nothing stays changed" + where, Check.state(x), before);
        }
    }

    private static void would(HiredEnemy x, Told told, int first, int ahead, int n, String where) {
        long most = -1;
        int best = -1;
        for (int k = 0; k <= told.rules.size(); k++) {
            int c = k == told.rules.size() ? -1 : k;
            Oracle o = led(told, first, ahead);
            o.sign(c < 0 ? null : told.rules.get(c));
            run(o, n);
            for (int i = 0; i < 10; i++) {
                int what = i;
                Check.due("15: would" + where, () -> x.would(c, n, what), o.sum(i));
            }
            if (o.duke > most) {
                most = o.duke;
                best = c;
            }
        }
        Check.due("16: best" + where, () -> x.best(n, 0), best);
        Check.due("16: its coin" + where, () -> x.best(n, 1), most);
    }

    private static void offer(HiredEnemy x, Told told, int first, int ahead, int n, String where) {
        long[] best = {0, 0, 0, -1};
        for (int r = 0; r <= 9; r++) {
            for (int corks = 0; corks <= 20; corks++) {
                Oracle o = led(told, first, ahead);
                Oracle.Rules rules = new Oracle.Rules();
                rules.pay = o.costA * (10 - r) + o.costB * corks;
                rules.winter = rules.pay;
                rules.near = r;
                rules.corks = corks;
                rules.till = 1000;
                o.sign(rules);
                run(o, n);
                if (o.duke > best[3]) {
                    best = new long[] {r, corks, rules.pay, o.duke};
                }
            }
        }
        for (int i = 0; i < 4; i++) {
            int what = i;
            Check.due("17: offer(" + n + ", " + i + ")" + where, () -> x.offer(n, what), best[i]);
        }
    }

    private static void stop(HiredEnemy x, Told told, int first, int ahead, int n, String where) {
        long most = -1;
        int best = 0;
        for (int k = 0; k <= n; k++) {
            Oracle o = led(told, first, ahead);
            run(o, k);
            o.sign(null);
            run(o, n - k);
            if (o.duke > most) {
                most = o.duke;
                best = k;
            }
        }
        Check.due("19: stop" + where, () -> x.stop(n, 0), best);
        Check.due("19: its coin" + where, () -> x.stop(n, 1), most);
    }

    private static void late() {
        HiredEnemy x = Check.with("duke 9000 0 0;enemy 0 0 0;fear 0 0 0;", "pay 1;");
        x.months(110);
        Check.due("15: 120 at most go by", () -> x.would(0, 60, 1), 10);
        Check.due("17: likewise", () -> x.offer(60, 3), 8950);
    }
}
