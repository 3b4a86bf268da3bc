import java.util.ArrayList;
import java.util.List;
import java.util.Random;

/** Promises 10 to 14: a CONTRACT is SIGNED, MONTHS go by and are undone, sums and corks. */
public final class MonthsTest {
    private static final String QUIET = "duke 1000 0 0;enemy 0 0 0;town 1000 0;fear 20 10 0;";

    public static void main(String[] args) {
        signing();
        taxes();
        pay();
        corks();
        fear();
        mending();
        cooks();
        limits();
        undoing();
        byOracle();
        Check.end("MonthsTest");
    }

    private static void sum(String what, HiredEnemy x, int sum, long want) {
        Check.due(what, () -> x.sums(sum), want);
    }

    private static void signing() {
        HiredEnemy x = Check.with(QUIET, "pay 1;", "pay 2;till 2;");
        Check.due("10: none before", () -> x.sign(1), -1);
        Check.due("10: 1 before", () -> x.sign(0), 1);
        x.months(3);
        Check.due("10: signed anew", () -> x.sign(0), 0);
        Check.due("10: its month 0", () -> x.told(4), 0);
        Check.noContract("10: 2", () -> x.sign(2));
        Check.noContract("10: -2", () -> x.sign(-2));
        Check.due("10: refused, in force still", () -> x.told(3), 0);
        Check.due("10: ended", () -> x.sign(-1), 0);
        Check.due("10: none", () -> x.told(3), -1);
        Check.due("6: none's month", () -> x.told(4), -1);
        x.months(1);
        sum("11: unpaid without", x, 1, 3);
        x.sign(1);
        x.months(1);
        Check.due("11: (h) first month", () -> x.told(3), 1);
        x.months(1);
        Check.due("11: (h) behind its last", () -> x.told(3), -1);
        x.months(1);
        sum("11: (h) paid twice", x, 1, 7);
    }

    private static void taxes() {
        HiredEnemy x = Check.with("duke 0 999 0;enemy 0 0 0;town 9999 33;fear 77 0 0;");
        x.months(1);
        sum("11: (a) cut", x, 0, 999 * 33 * 77 / 10000);
        sum("11: (a) the town paid", x, 2, 9999 - 999 * 33 * 77 / 10000);
        HiredEnemy poor = Check.with("duke 0 999 0;enemy 0 0 0;town 9 100;fear 100 0 0;");
        poor.months(2);
        sum("11: (a) what it has", poor, 0, 9);
        sum("11: (a) nothing left", poor, 2, 0);
        HiredEnemy first = Check.with("wall 9 0;duke 0 100 0;enemy 0 0 0;town 100 100;fear 50 0 50;", "pay 50;");
        first.sign(0);
        first.months(1);
        sum("11: taxes ahead of pay, and by the fear ahead of (e)", first, 1, 50);
        sum("11: no default", first, 8, 0);
    }

    private static void pay() {
        HiredEnemy x = Check.with("duke 9999 0 0;enemy 0 0 0;", "pay 1;winter 100;");
        x.months(1);
        x.sign(0);
        int paid = 0;
        for (int month = 1; month <= 26; month++) {
            x.months(1);
            int left = month % 12;
            paid += left == 10 || left == 11 || left == 0 || left == 1 ? 100 : 1;
            sum("11: (b) pay by the siege's month " + month, x, 1, paid);
        }
        HiredEnemy all = Check.with("wall 1 0;duke 30 0 0;enemy 0 0 0;fear 0 5 0;", "pay 10;winter 30;corks 1;near 0;breach 0 1;");
        all.sign(0);
        all.months(1);
        sum("11: (b) his last coin", all, 0, 0);
        sum("11: (b) no default", all, 8, 0);
        sum("11: (c) fell, (d) nearer", all, 5, 14);
        all.months(1);
        sum("11: (b) default", all, 8, 1);
        sum("11: (b) unpaid", all, 1, 30);
        sum("11: (c) not missed in default", all, 7, 0);
        sum("11: (c) no corks in default", all, 9, 1);
        sum("11: (d) not in default", all, 5, 14);
        Check.due("11: (b) it ends", () -> all.told(3), -1);
        all.months(5);
        sum("11: (b) once", all, 8, 1);
        HiredEnemy free = Check.with("duke 0 0 0;enemy 0 0 0;", "");
        free.sign(0);
        free.months(1);
        sum("11: (b) pay of 0 is paid", free, 8, 0);
    }

    private static void corks() {
        HiredEnemy x = Check.with("wall 5 0;wall 3 0;wall 3 0;" + QUIET, "corks 2;near 5;", "corks 4;near 5;breach 2 0;");
        x.sign(0);
        x.months(1);
        Check.due("11: (c) the first of the weakest", () -> x.corks(0, 1), 2);
        Check.due("14: not at wall 0", () -> x.corks(0, 0), 0);
        Check.due("14: not at wall 2", () -> x.corks(0, 2), 0);
        x.months(1);
        Check.due("11: (c) one more fells it, then the first of the weakest anew", () -> x.corks(1, 1), 2);
        Check.due("7: it fell", () -> x.wall(1, 3), 1);
        Check.due("7: and was hit again", () -> x.wall(1, 1), 2);
        x.sign(1);
        x.months(1);
        Check.due("11: (c) at the wall told, behind its fall too", () -> x.corks(2, 2), 4);
        Check.due("7: it is hit once more", () -> x.wall(2, 1), 2);
        x.months(1);
        Check.due("11: (c) its month 1 tells none", () -> x.corks(3, 1) * 10 + x.corks(3, 2), 22);
        Check.due("7: both fell", () -> x.wall(1, 3) * 10 + x.wall(2, 3), 22);
        Check.due("13: corks shot", () -> x.sums(9), 12);
    }

    private static void fear() {
        HiredEnemy x = Check.with("wall 2 0;wall 4 0;" + QUIET, "corks 6;near 5;bonus 7;", "corks 5;near 4;breach 1 0;", "corks 3;breach 1 0;breach 0 1;");
        x.sign(0);
        x.months(1);
        sum("11: (c) three breaches", x, 6, 3);
        Check.due("7: of wall 0", () -> x.wall(0, 3), 3);
        Check.due("11: (c) full at once", () -> x.wall(0, 1), 2);
        sum("11: (c) bonus", x, 1, 21);
        sum("11: (c) (d) fear", x, 5, 20 + 30 + 4);
        sum("13: corks shot", x, 9, 6);
        x.sign(1);
        x.months(1);
        Check.due("11: (c) at the wall told", () -> x.corks(1, 1), 5);
        Check.due("11: (c) 1 2 1 then 1 + 2 cut, breached at the third", () -> x.wall(1, 3), 1);
        Check.due("11: (c) the fourth takes 2 of the full one", () -> x.wall(1, 1), 1);
        sum("11: (c) not missed", x, 7, 0);
        x.sign(2);
        x.undo(2);
        x.sign(2);
        x.months(1);
        sum("11: (c) missed", x, 7, 1);
        Check.due("11: (c) all at the wall told", () -> x.wall(1, 1), 1);
        x.months(1);
        sum("11: (c) the other month's wall fell", x, 7, 1);
        Check.due("11: (c) wall 0 fell", () -> x.wall(0, 3), 1);
        x.months(1);
        Check.due("11: (c) none told: the weakest, then that with the least left", () -> x.corks(2, 0) * 10 + x.corks(2, 1), 21);
        HiredEnemy over = Check.with("wall 1 0;duke 30 0 0;enemy 0 0 0;fear 95 50 1;", "corks 3;bonus 20;near 0;");
        over.sign(0);
        over.months(1);
        sum("11: (c) (d) 100 at most, (e) behind", over, 5, 99);
        sum("11: (c) bonus, what he has at most", over, 1, 30);
        sum("11: (c) breaches", over, 6, 3);
        HiredEnemy calm = Check.with("fear 3 0 50;");
        calm.months(1);
        sum("11: (e) 0 at least", calm, 5, 0);
        HiredEnemy bare = Check.with(QUIET, "corks 5;near 0;");
        bare.sign(0);
        bare.months(1);
        sum("11: (c) no wall, no cork", bare, 9, 0);
        sum("11: (d) without walls too", bare, 5, 29);
    }

    private static void mending() {
        HiredEnemy x = Check.with("wall 20 3;wall 10 6;mason 2;duke 11 0 0;enemy 0 0 0;town 5 0;", "corks 4;breach 0 0;breach 1 1;");
        x.sign(0);
        x.months(1);
        Check.due("11: (f) by H", () -> x.wall(0, 1), 19);
        sum("11: (f) paid", x, 0, 5);
        sum("11: (f) to the town", x, 2, 11);
        x.months(1);
        Check.due("11: (f) to its strength", () -> x.wall(0, 1), 20);
        Check.due("11: (f) as far as he can pay", () -> x.wall(1, 1), 7);
        sum("11: (f) coin that is no whole price stays", x, 0, 1);
        HiredEnemy free = Check.with("wall 20 3;mason 0;duke 0 0 0;", "corks 4;");
        free.sign(0);
        free.months(1);
        Check.due("11: (f) for nothing", () -> free.wall(0, 1), 19);
    }

    private static void cooks() {
        HiredEnemy x = Check.with("duke 100 119 3;enemy 20 59 5;town 0 0;");
        x.months(1);
        sum("11: (g) duke, by whole tens", x, 0, 100 - 33);
        sum("11: (g) enemy, what it has", x, 1, 0);
        sum("11: (g) the town has it", x, 2, 53);
        sum("11: (g) deserters", x, 3, 119 - 2);
        sum("11: (g) to the other one", x, 4, 59 + 2);
        HiredEnemy back = Check.with("duke 0 10 9;enemy 0 999 0;");
        back.months(1);
        sum("11: (g) from the enemy", back, 4, 999 - 89);
        sum("11: (g) to the duke", back, 3, 10 + 89);
        HiredEnemy same = Check.with("duke 0 500 4;enemy 0 500 4;");
        same.months(9);
        sum("11: (g) none", same, 3, 500);
    }

    private static void limits() {
        HiredEnemy x = Check.with("wall 9 0;", "corks 1;");
        Check.illegal("11: 0", () -> x.months(0));
        Check.illegal("11: 121", () -> x.months(121));
        Check.illegal("11: -1", () -> x.months(-1));
        Check.illegal("12: 0", () -> x.undo(0));
        Check.illegal("12: 121", () -> x.undo(121));
        Check.illegal("13: -1", () -> x.sums(-1));
        Check.illegal("13: 10", () -> x.sums(10));
        Check.illegal("14: month -1", () -> x.corks(-1, 0));
        Check.illegal("14: month 120", () -> x.corks(120, 0));
        Check.noWall("14: wall -1", () -> x.corks(0, -1));
        Check.noWall("14: wall 1", () -> x.corks(0, 1));
        Check.noWall("14: both wrong", () -> x.corks(120, 1));
        Check.due("12: none is gone", () -> x.undo(120), 0);
        Check.due("11: 100", () -> x.months(100), 100);
        x.sign(0);
        Check.due("11: 20 are left", () -> x.months(21), 20);
        Check.due("11: none is left", () -> x.months(1), 0);
        Check.due("6: 120", () -> x.told(2), 120);
        Check.due("14: month 119", () -> x.corks(119, 0), 1);
        Check.due("14: month 99", () -> x.corks(99, 0), 0);
        Check.due("15: none goes by", () -> x.would(0, 60, 9), 20);
        String end = Check.state(x);
        Check.due("12: the last", () -> x.undo(1), 1);
        Check.due("12: 119", () -> x.told(2) * 100 + x.sums(9), 11919);
        x.months(9);
        Check.same("11: the last again", Check.state(x), end);
        Check.due("12: all", () -> x.undo(120), 120);
    }

    private static void undoing() {
        HiredEnemy x = Check.with("wall 9 1;wall 8 0;", "pay 3;corks 5;till 3;", "pay 2;corks 20;near 1;");
        String start = Check.state(x);
        x.sign(0);
        x.months(2);
        String two = Check.state(x);
        x.sign(1);
        x.months(2);
        Check.contract(x, "pay 9;");
        Check.due("12: one", () -> x.undo(1), 1);
        Check.due("12: in force as that month began", () -> x.told(3), 1);
        Check.due("14: not gone any more", () -> x.corks(3, 0) + x.corks(3, 1), 0);
        Check.due("12: another", () -> x.undo(1), 1);
        Check.due("12: signed ahead of the month", () -> x.told(3), 1);
        Check.due("12: a contract stays", () -> x.told(1), 3);
        x.sign(0);
        x.undo(1);
        Check.due("12: what was in force", () -> x.told(3), 0);
        Check.due("12: its month", () -> x.told(4), 1);
        x.months(1);
        Check.same("12: done again, but for the contract", Check.state(x), two.replaceFirst("^2 2 ", "2 3 "));
        Check.due("12: more than are gone", () -> x.undo(50), 2);
        x.sign(-1);
        Check.same("12: from the start", Check.state(x), start.replaceFirst("^2 2 ", "2 3 "));
    }

    private static void byOracle() {
        Random random = new Random(11);
        for (int run = 0; run < 400; run++) {
            Told told = new Told(random);
            HiredEnemy x = told.object();
            Oracle o = told.oracle();
            long coin = o.duke + o.enemy + o.town;
            List<long[]> shot = new ArrayList<>();
            for (int step = 0; step < 12; step++) {
                if (random.nextBoolean()) {
                    int c = random.nextInt(told.rules.size() + 1) - 1;
                    x.sign(c);
                    o.sign(c < 0 ? null : told.rules.get(c));
                }
                int n = 1 + random.nextInt(random.nextBoolean() ? 3 : 20);
                int due = Math.min(n, 120 - o.month);
                Check.due("11: how many", () -> x.months(n), due);
                for (int i = 0; i < due; i++) {
                    o.pass();
                    shot.add(o.shotAt);
                }
                compare("run " + run + " of " + told.siege + told.contracts, x, o, shot);
                Check.same("coin adds up", x.sums(0) + x.sums(1) + x.sums(2), coin);
            }
        }
    }

    static void compare(String where, HiredEnemy x, Oracle o, List<long[]> shot) {
        for (int i = 0; i < 10; i++) {
            int what = i;
            Check.due("13: sums(" + i + ") in " + where, () -> x.sums(what), o.sum(i));
        }
        Check.due("6: in force in " + where, () -> x.told(3) >= 0 ? 1 : 0, o.rules == null ? 0 : 1);
        Check.due("6: its month in " + where, () -> x.told(4), o.rules == null ? -1 : o.month - o.signed);
        for (int w = 0; w < o.walls.size(); w++) {
            int wall = w;
            Check.due("7: left in " + where, () -> x.wall(wall, 1), o.walls.get(w).left);
            Check.due("7: fallen in " + where, () -> x.wall(wall, 3), o.walls.get(w).fallen);
            for (int m = 0; m < 120; m++) {
                int month = m;
                Check.due("14: corks in " + where, () -> x.corks(month, wall), m < shot.size() ? shot.get(m)[w] : 0);
            }
        }
    }
}
