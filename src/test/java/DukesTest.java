import java.util.Random;

/** Promises 28 to 30: TWO DUKES, all ways of the twelve MONTHS tried. */
public final class DukesTest {
    public static void main(String[] args) {
        arguments();
        byHand();
        Random random = new Random(28);
        for (int run = 0; run < 25; run++) {
            byTrying(random, run);
        }
        Check.end("DukesTest");
    }

    private static void arguments() {
        HiredEnemy x = new HiredEnemy();
        for (int n : new int[] {0, 3, -1}) {
            Check.illegal("28: duke " + n, () -> x.offers(n, 0, 1));
        }
        Check.illegal("28: month -1", () -> x.offers(1, -1, 1));
        Check.illegal("28: month 12", () -> x.offers(1, 12, 1));
        Check.illegal("28: coin -1", () -> x.offers(1, 0, -1));
        Check.illegal("28: coin 1000", () -> x.offers(1, 0, 1000));
        Check.illegal("30: -1", () -> x.serves(-1));
        Check.illegal("30: 12", () -> x.serves(12));
        Check.due("29: nothing offered", x::most, 0);
        Check.due("28: at first", () -> x.offers(2, 11, 999), 0);
        Check.due("28: then", () -> x.offers(2, 11, 0), 999);
        Check.due("28: the other duke's", () -> x.offers(1, 11, 5), 0);
        Check.due("33", () -> x.status(2), 9);
    }

    private static void byHand() {
        HiredEnemy x = new HiredEnemy();
        x.offers(1, 0, 5);
        x.offers(2, 1, 5);
        Check.due("29: not both", x::most, 5);
        Check.due("30: the first way", () -> x.serves(0) * 10 + x.serves(1), 2);
        x.offers(2, 2, 5);
        Check.due("29: both of the second", x::most, 10);
        x.offers(1, 0, 6);
        Check.due("29: with a month for none", x::most, 11);
        Check.due("30: one, none, two", () -> x.serves(0) * 100 + x.serves(1) * 10 + x.serves(2), 102);
        Check.due("30: none without coin", () -> x.serves(3), 0);
        HiredEnemy unasked = new HiredEnemy();
        unasked.offers(2, 4, 1);
        Check.due("30: without most", () -> unasked.serves(4), 2);
        HiredEnemy all = new HiredEnemy();
        for (int m = 0; m < 12; m++) {
            all.offers(1, m, 999);
            all.offers(2, m, 999);
        }
        Check.due("29: the most", all::most, 12 * 999);
        Check.due("30: the first duke", () -> all.serves(11), 1);
    }

    private static void byTrying(Random random, int run) {
        HiredEnemy x = new HiredEnemy();
        int[][] coin = new int[3][12];
        int high = random.nextBoolean() ? 4 : 1000;
        for (int m = 0; m < 12; m++) {
            for (int duke = 1; duke <= 2; duke++) {
                coin[duke][m] = random.nextInt(high);
                x.offers(duke, m, coin[duke][m]);
            }
        }
        int[] way = new int[12];
        int[] first = new int[12];
        int most = tryAll(coin, way, 0, 0, first, -1);
        Check.due("29: most, run " + run, x::most, most);
        for (int m = 0; m < 12; m++) {
            int month = m;
            Check.due("30: serves(" + m + "), run " + run, () -> x.serves(month), first[m]);
        }
    }

    static int tryAll(int[][] coin, int[] way, int month, int sum, int[] first, int most) {
        if (month == 12) {
            if (sum > most) {
                System.arraycopy(way, 0, first, 0, 12);
                return sum;
            }
            return most;
        }
        int best = most;
        for (int whom = 0; whom <= 2; whom++) {
            if (month > 0 && way[month - 1] + whom == 3) {
                continue;
            }
            way[month] = whom;
            best = tryAll(coin, way, month + 1, sum + coin[whom][month], first, best);
        }
        return best;
    }
}
