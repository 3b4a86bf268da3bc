import java.util.ArrayList;
import java.util.List;
import java.util.Random;

/** Promises 25 to 27: IN EARNEST, each way of putting men tried against each. */
public final class EarnestTest {
    public static void main(String[] args) {
        arguments();
        byHand();
        Random random = new Random(25);
        for (int run = 0; run < 60; run++) {
            int walls = random.nextInt(7);
            int[] strength = new int[walls];
            StringBuilder text = new StringBuilder();
            for (int i = 0; i < walls; i++) {
                strength[i] = 1 + random.nextInt(random.nextBoolean() ? 99 : 24);
                text.append("wall ").append(strength[i]).append(" 0;");
            }
            byTrying(text.toString(), strength);
        }
        Check.end("EarnestTest");
    }

    private static void arguments() {
        HiredEnemy x = Check.with("wall 5 0;");
        for (int n : new int[] {-1, 7, Integer.MAX_VALUE, Integer.MIN_VALUE}) {
            Check.illegal("25: a " + n, () -> x.earnest(n, 0, 0));
            Check.illegal("25: d " + n, () -> x.earnest(0, n, 0));
            Check.illegal("26: a " + n, () -> x.stands(n, 0));
            Check.illegal("26: d " + n, () -> x.stands(0, n));
            Check.illegal("27: a " + n, () -> x.show(n, 0));
            Check.illegal("27: d " + n, () -> x.show(0, n));
        }
        Check.illegal("25: what -1", () -> x.earnest(0, 0, -1));
        Check.illegal("25: what 2", () -> x.earnest(0, 0, 2));
    }

    private static void byHand() {
        HiredEnemy x = Check.with("wall 24 0;wall 25 0;wall 50 0;wall 99 0;", "corks 30;near 9;");
        Check.due("25: S by 25, cut", () -> x.earnest(1, 0, 0), 24);
        Check.due("25: 25 holds one", () -> x.earnest(2, 0, 0), 25);
        Check.due("25: 50 holds two", () -> x.earnest(3, 0, 0), 50);
        Check.due("25: the first three alone", () -> x.earnest(6, 0, 0), 99);
        Check.due("26: all are put", () -> x.stands(0, 6), 6);
        Check.due("26: at the one that counts", () -> x.stands(1, 1), 100);
        Check.due("27: the third is needed, others alone fall less", () -> x.show(1, 0), 6);
        x.sign(0);
        x.months(1);
        Check.due("25: S, not what is left", () -> x.earnest(1, 0, 0), 24);
        HiredEnemy one = Check.with("wall 7 0;");
        Check.due("25: it falls", () -> one.earnest(2, 1, 0), 7);
        Check.due("25: it holds", () -> one.earnest(2, 2, 0), 0);
        Check.due("26: one digit", () -> one.stands(6, 4), 4);
        Check.due("27: not for show", () -> one.show(2, 1), 0);
        Check.due("27: for show", () -> one.show(2, 2), 1);
        Check.due("26: of the siege that is told", () -> Check.with("wall 1 0;wall 2 0;").stands(1, 1), 1);
        Check.due("27: of the siege that is told", () -> Check.with("wall 1 0;wall 2 0;").show(1, 0), 1);
        one.siege(0);
        Check.due("26: no wall any more", () -> one.stands(6, 4), 0);
        Check.due("27: no wall any more", () -> one.show(2, 2), 0);
        HiredEnemy none = new HiredEnemy();
        Check.due("25: no wall", () -> none.earnest(6, 0, 0) + none.earnest(6, 0, 1) + none.stands(0, 6) + none.show(6, 0), 0);
    }

    /** All ways to put so many at so many places, first by digits. */
    private static void ways(int men, int[] put, int at, List<int[]> all) {
        if (at == put.length) {
            if (men == 0) {
                all.add(put.clone());
            }
            return;
        }
        for (int n = 0; n <= men; n++) {
            put[at] = n;
            ways(men - n, put, at + 1, all);
        }
    }

    private static List<int[]> ways(int men, int places) {
        List<int[]> all = new ArrayList<>();
        ways(men, new int[places], 0, all);
        if (all.isEmpty()) {
            all.add(new int[places]);
        }
        return all;
    }

    private static int felled(int[] strength, int[] enemy, int[] duke) {
        int sum = 0;
        for (int i = 0; i < enemy.length; i++) {
            sum += enemy[i] > duke[i] + strength[i] / 25 ? strength[i] : 0;
        }
        return sum;
    }

    static int[] safe(int[] strength, int a, int d) {
        int least = Integer.MAX_VALUE;
        int digits = 0;
        for (int[] duke : ways(d, strength.length)) {
            int worst = 0;
            for (int[] enemy : ways(a, strength.length)) {
                worst = Math.max(worst, felled(strength, enemy, duke));
            }
            if (worst < least) {
                least = worst;
                digits = 0;
                for (int n : duke) {
                    digits = digits * 10 + n;
                }
            }
        }
        return new int[] {least, digits};
    }

    static int sure(int[] strength, int a, int d) {
        int most = 0;
        for (int[] enemy : ways(a, strength.length)) {
            int least = Integer.MAX_VALUE;
            for (int[] duke : ways(d, strength.length)) {
                least = Math.min(least, felled(strength, enemy, duke));
            }
            most = Math.max(most, least);
        }
        return most;
    }

    static int[] without(int[] strength, int wall) {
        int[] others = new int[strength.length - 1];
        for (int i = 0; i < others.length; i++) {
            others[i] = strength[i < wall ? i : i + 1];
        }
        return others;
    }

    private static void byTrying(String text, int[] told) {
        HiredEnemy x = Check.with(text);
        int[] strength = java.util.Arrays.copyOf(told, Math.min(3, told.length));
        for (int i = 0; i <= 6; i++) {
            for (int j = 0; j <= 6; j++) {
                int a = i;
                int d = j;
                String where = "(" + a + ", " + d + ") of " + text;
                int[] safe = safe(strength, a, d);
                int shown = 0;
                for (int w = 0; w < strength.length; w++) {
                    shown |= safe(without(strength, w), a, d)[0] == safe[0] ? 1 << w : 0;
                }
                int bits = shown;
                Check.due("25: SAFE" + where, () -> x.earnest(a, d, 0), safe[0]);
                Check.due("25: SURE" + where, () -> x.earnest(a, d, 1), sure(strength, a, d));
                Check.due("26: stands" + where, () -> x.stands(a, d), safe[1]);
                Check.due("27: show" + where, () -> x.show(a, d), bits);
            }
        }
    }
}
