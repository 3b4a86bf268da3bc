import java.math.BigInteger;
import java.util.Random;

/** Promises 20 to 24: a REAL one. */
public final class BeliefTest {
    public static void main(String[] args) {
        arguments();
        byHand();
        twelve();
        byBigNumbers();
        Check.end("BeliefTest");
    }

    private static void believed(String what, HiredEnemy x, long real, long hired) {
        Check.due("24: real, " + what, () -> x.believed(0), real);
        Check.due("24: hired, " + what, () -> x.believed(1), hired);
    }

    private static void arguments() {
        HiredEnemy x = new HiredEnemy();
        x.odds(2, 3);
        x.seen(0);
        Check.illegalDo("20: a 0", () -> x.odds(0, 1));
        Check.illegalDo("20: a 100", () -> x.odds(100, 1));
        Check.illegalDo("20: b 0", () -> x.odds(1, 0));
        Check.illegalDo("20: b 100", () -> x.odds(1, 100));
        Check.illegalDo("21: kind -1", () -> x.kind(-1, 1, 1));
        Check.illegalDo("21: kind 4", () -> x.kind(4, 1, 1));
        Check.illegalDo("21: real 0", () -> x.kind(0, 0, 1));
        Check.illegalDo("21: real 17", () -> x.kind(0, 17, 1));
        Check.illegalDo("21: hired 0", () -> x.kind(0, 1, 0));
        Check.illegalDo("21: hired 17", () -> x.kind(0, 1, 17));
        Check.illegal("22: -1", () -> x.seen(-1));
        Check.illegal("22: 4", () -> x.seen(4));
        Check.illegal("23: 0", () -> x.spy(true, 0));
        Check.illegal("23: 16", () -> x.spy(false, 16));
        Check.illegal("24: -1", () -> x.believed(-1));
        Check.illegal("24: 2", () -> x.believed(2));
        Check.due("33: counted", () -> x.status(2), 16);
        Check.due("34: things", () -> x.count(2), 1);
        believed("refused ones do nothing", x, 2, 3);
    }

    private static void byHand() {
        HiredEnemy x = new HiredEnemy();
        for (int kind = 0; kind < 4; kind++) {
            x.seen(kind);
            believed("8 and 8 at first", x, 1, 1);
        }
        x.siege(0);
        believed("1 to 1 at first", x, 1, 1);
        x.odds(99, 66);
        believed("in least terms", x, 3, 2);
        Check.due("20: forgotten", () -> x.count(2), 0);
        x.kind(2, 16, 1);
        Check.due("22: one", () -> x.seen(2), 1);
        believed("a sign", x, 24, 1);
        x.kind(2, 1, 16);
        believed("as told when it was seen", x, 24, 1);
        Check.due("22: two", () -> x.seen(2), 2);
        believed("both", x, 3, 2);
        Check.due("23: three", () -> x.spy(true, 15), 3);
        believed("a spy says yes", x, 45, 2);
        Check.due("23: four", () -> x.spy(false, 15), 4);
        believed("a spy says no", x, 3, 2);
        x.spy(false, 1);
        believed("one who is wrong", x, 45, 2);
        x.odds(1, 2);
        x.seen(2);
        believed("odds leave the kinds", x, 1, 32);
    }

    private static void twelve() {
        HiredEnemy x = new HiredEnemy();
        x.odds(99, 1);
        x.kind(0, 16, 1);
        for (int i = 1; i <= 11; i++) {
            int want = i;
            Check.due("22: things", () -> x.seen(0), want);
        }
        Check.due("23: the 12th", () -> x.spy(true, 15), 12);
        Check.due("22: the 13th", () -> x.seen(0), -1);
        Check.due("23: the 13th", () -> x.spy(true, 3), -1);
        Check.illegal("22: refused first", () -> x.seen(4));
        Check.due("34: 12", () -> x.count(2), 12);
        believed("99 times 16 eleven times times 15", x, 99L * (1L << 44) * 15, 1);
    }

    private static void byBigNumbers() {
        Random random = new Random(24);
        for (int run = 0; run < 300; run++) {
            HiredEnemy x = new HiredEnemy();
            int a = 1 + random.nextInt(99);
            int b = 1 + random.nextInt(99);
            x.odds(a, b);
            BigInteger real = BigInteger.valueOf(a);
            BigInteger hired = BigInteger.valueOf(b);
            for (int i = 0; i < 12; i++) {
                int p = 1 + random.nextInt(16);
                int q = 1 + random.nextInt(16);
                if (random.nextBoolean()) {
                    int kind = random.nextInt(4);
                    x.kind(kind, p, q);
                    x.seen(kind);
                } else {
                    p = 1 + random.nextInt(15);
                    q = 16 - p;
                    boolean yes = random.nextBoolean();
                    x.spy(yes, yes ? p : q);
                }
                real = real.multiply(BigInteger.valueOf(p));
                hired = hired.multiply(BigInteger.valueOf(q));
                BigInteger common = real.gcd(hired);
                believed("run " + run, x, real.divide(common).longValueExact(), hired.divide(common).longValueExact());
            }
        }
    }
}
