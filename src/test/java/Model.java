import java.math.BigInteger;
import java.nio.ByteBuffer;
import java.util.ArrayList;
import java.util.Arrays;
import java.util.List;
import java.util.NoSuchElementException;

/** The whole class a second time: what was done stands in a list, and each answer is worked out of it from the first MONTH on. */
public final class Model {
    /** In the list of what was done: a MONTH went by; all others are CONTRACTS that were SIGNED, or NONE. */
    private static final int MONTH = -9;
    private static final int NONE = -1;

    /** What an IMAGE keeps. */
    private static final class Kept {
        List<Integer> done = new ArrayList<>();
        int[] odds = {1, 1};
        int[][] kinds = {{8, 8}, {8, 8}, {8, 8}, {8, 8}};
        List<int[]> things = new ArrayList<>();
        int[][] offers = new int[3][12];

        Kept copy() {
            Kept k = new Kept();
            k.done.addAll(done);
            k.odds = odds.clone();
            for (int i = 0; i < 4; i++) {
                k.kinds[i] = kinds[i].clone();
            }
            k.things.addAll(things);
            for (int i = 0; i < 3; i++) {
                k.offers[i] = offers[i].clone();
            }
            return k;
        }
    }

    private final StringBuilder tape = new StringBuilder();
    private ReadingTest.Read siege = new ReadingTest.Read();
    private final List<ReadingTest.Read> contracts = new ArrayList<>();
    private Kept kept = new Kept();
    private final List<Kept> images = new ArrayList<>();
    private int fault = NONE;
    private final int[] refused = new int[3];

    private void argument(boolean fine) {
        if (!fine) {
            refused[2]++;
            throw new IllegalArgumentException();
        }
    }

    private void range(int n, int low, int high) {
        argument(low <= n && n <= high);
    }

    private void mustBeWall(int wall) {
        if (wall < 0 || wall >= walls()) {
            refused[1]++;
            throw new IndexOutOfBoundsException();
        }
    }

    private void mustBeContract(int contract) {
        if (contract < 0 || contract >= contracts.size()) {
            refused[0]++;
            throw new NoSuchElementException();
        }
    }

    private int walls() {
        return siege.all("wall").size();
    }

    private ModelWorld now() {
        return new ModelWorld(siege, contracts).replay(kept.done, MONTH);
    }

    private ModelWorld tried(ModelWorld from, ReadingTest.Read contract, int n) {
        ModelWorld w = from.copy();
        w.sign(NONE, contract);
        w.go(n);
        return w;
    }

    public int feed(int a, int b, int c, int d, int e) {
        if (tape.length() > 480) {
            return NONE;
        }
        for (int n : new int[] {a, b, c, d, e}) {
            for (byte sign : ByteBuffer.allocate(4).putInt(n).array()) {
                tape.append((char) (sign & 255));
            }
        }
        return tape.length();
    }

    public int siege(int n) {
        range(n, 0, tape.length());
        ReadingTest.Read read = ReadingTest.readSiege(tape.substring(0, n));
        tape.setLength(0);
        fault = read.place;
        if (read.fault != 0) {
            return read.fault - 10;
        }
        siege = read;
        contracts.clear();
        images.clear();
        Kept old = kept;
        kept = new Kept();
        kept.odds = old.odds;
        kept.kinds = old.kinds;
        return walls();
    }

    public int contract(int n) {
        range(n, 0, Math.min(200, tape.length()));
        ReadingTest.Read read = ReadingTest.readContract(tape.substring(0, n), walls());
        tape.setLength(0);
        fault = NONE;
        if (contracts.size() == 6) {
            return -1;
        }
        fault = read.place;
        if (read.fault != 0) {
            return read.fault - 10;
        }
        contracts.add(read);
        return contracts.size() - 1;
    }

    public int fault() {
        return fault;
    }

    public int told(int what) {
        range(what, 0, 4);
        ModelWorld w = now();
        return new int[] {walls(), contracts.size(), w.month, w.inForce, w.inForce == NONE ? NONE : w.month - w.signed}[what];
    }

    public int wall(int wall, int what) {
        mustBeWall(wall);
        range(what, 0, 3);
        int[] said = siege.all("wall").get(wall);
        ModelWorld w = now();
        return new int[] {said[0], w.left[wall], said[1], w.fallen[wall]}[what];
    }

    public int rule(int contract, int what) {
        mustBeContract(contract);
        range(what, 0, 6);
        ReadingTest.Read r = contracts.get(contract);
        int pay = r.last("pay", 0)[0];
        if (what == 6) {
            return (int) r.all("breach").stream().map(b -> b[1]).distinct().count();
        }
        return new int[] {
            pay, r.last("winter", pay)[0], r.last("near", 9)[0], r.last("corks", 0)[0], r.last("bonus", 0)[0], r.last("till", 36)[0]
        }[what];
    }

    public int wants(int r, int corks) {
        range(r, 0, 9);
        range(corks, 0, 99);
        int[] cost = siege.last("cost", 5, 1);
        return cost[0] * (1 + 9 - r) + cost[1] * corks;
    }

    public int sign(int contract) {
        if (contract != NONE) {
            mustBeContract(contract);
        }
        int before = now().inForce;
        kept.done.add(contract);
        return before;
    }

    public int months(int n) {
        range(n, 1, 120);
        int gone = Math.min(n, 120 - now().month);
        for (int i = 0; i < gone; i++) {
            kept.done.add(MONTH);
        }
        return gone;
    }

    public int undo(int n) {
        range(n, 1, 120);
        int undone = 0;
        while (undone < n && kept.done.contains(MONTH)) {
            kept.done.subList(kept.done.lastIndexOf(MONTH), kept.done.size()).clear();
            undone++;
        }
        return undone;
    }

    public int sums(int what) {
        range(what, 0, 9);
        return now().sum(what);
    }

    public int corks(int month, int wall) {
        mustBeWall(wall);
        range(month, 0, 119);
        ModelWorld w = now();
        return month < w.month ? w.led.get(month)[wall] : 0;
    }

    public int would(int contract, int n, int what) {
        if (contract != NONE) {
            mustBeContract(contract);
        }
        range(n, 1, 60);
        range(what, 0, 9);
        return tried(now(), contract == NONE ? null : contracts.get(contract), n).sum(what);
    }

    public int best(int n, int what) {
        range(n, 1, 60);
        range(what, 0, 1);
        ModelWorld w = now();
        int[] best = {NONE, tried(w, null, n).duke};
        for (int i = contracts.size() - 1; i >= 0; i--) {
            int coin = tried(w, contracts.get(i), n).duke;
            if (coin >= best[1]) {
                best = new int[] {i, coin};
            }
        }
        return best[what];
    }

    public int offer(int n, int what) {
        range(n, 1, 60);
        range(what, 0, 3);
        ModelWorld w = now();
        int[] best = {NONE, NONE, NONE, NONE};
        for (int at = 10 * 21 - 1; at >= 0; at--) {
            int r = at / 21;
            int corks = at % 21;
            int coin = tried(w, ReadingTest.proposed(wants(r, corks), r, corks, n), n).duke;
            if (coin >= best[3]) {
                best = new int[] {r, corks, wants(r, corks), coin};
            }
        }
        return best[what];
    }

    public int nearest(int pay, int corks) {
        range(pay, 0, 9999);
        range(corks, 0, 99);
        int r = 10;
        while (r > 0 && wants(r - 1, corks) <= pay) {
            r--;
        }
        return r == 10 ? NONE : r;
    }

    public int stop(int n, int what) {
        range(n, 1, 60);
        range(what, 0, 1);
        int[] best = {NONE, NONE};
        for (int paid = n; paid >= 0; paid--) {
            ModelWorld w = now();
            w.go(paid);
            w.sign(NONE, null);
            w.go(n - paid);
            if (w.duke >= best[1]) {
                best = new int[] {paid, w.duke};
            }
        }
        return best[what];
    }

    public void odds(int a, int b) {
        range(a, 1, 99);
        range(b, 1, 99);
        kept.odds = new int[] {a, b};
        kept.things.clear();
    }

    public void kind(int kind, int real, int hired) {
        range(kind, 0, 3);
        range(real, 1, 16);
        range(hired, 1, 16);
        kept.kinds[kind] = new int[] {real, hired};
    }

    public int seen(int kind) {
        range(kind, 0, 3);
        return saw(kept.kinds[kind]);
    }

    public int spy(boolean real, int r) {
        range(r, 1, 15);
        return saw(real ? new int[] {r, 16 - r} : new int[] {16 - r, r});
    }

    private int saw(int[] thing) {
        if (kept.things.size() == 12) {
            return -1;
        }
        kept.things.add(thing);
        return kept.things.size();
    }

    public long believed(int what) {
        range(what, 0, 1);
        BigInteger[] both = {BigInteger.valueOf(kept.odds[0]), BigInteger.valueOf(kept.odds[1])};
        for (int[] thing : kept.things) {
            both[0] = both[0].multiply(BigInteger.valueOf(thing[0]));
            both[1] = both[1].multiply(BigInteger.valueOf(thing[1]));
        }
        return both[what].divide(both[0].gcd(both[1])).longValueExact();
    }

    private int[] firstWalls() {
        return siege.all("wall").stream().limit(3).mapToInt(w -> w[0]).toArray();
    }

    public int earnest(int a, int d, int what) {
        range(a, 0, 6);
        range(d, 0, 6);
        range(what, 0, 1);
        return what == 0 ? EarnestTest.safe(firstWalls(), a, d)[0] : EarnestTest.sure(firstWalls(), a, d);
    }

    public int stands(int a, int d) {
        range(a, 0, 6);
        range(d, 0, 6);
        return EarnestTest.safe(firstWalls(), a, d)[1];
    }

    public int show(int a, int d) {
        range(a, 0, 6);
        range(d, 0, 6);
        int bits = 0;
        int[] walls = firstWalls();
        for (int i = 0; i < walls.length; i++) {
            bits += EarnestTest.safe(EarnestTest.without(walls, i), a, d)[0] == EarnestTest.safe(walls, a, d)[0] ? 1 << i : 0;
        }
        return bits;
    }

    public int offers(int duke, int month, int coin) {
        range(duke, 1, 2);
        range(month, 0, 11);
        range(coin, 0, 999);
        int before = kept.offers[duke][month];
        kept.offers[duke][month] = coin;
        return before;
    }

    public int most() {
        return DukesTest.tryAll(kept.offers, new int[12], 0, 0, new int[12], -1);
    }

    public int serves(int month) {
        range(month, 0, 11);
        int[] first = new int[12];
        DukesTest.tryAll(kept.offers, new int[12], 0, 0, first, -1);
        return first[month];
    }

    public int image() {
        if (images.size() == 3) {
            return -1;
        }
        images.add(kept.copy());
        return images.size();
    }

    public int restore() {
        if (images.isEmpty()) {
            return -1;
        }
        kept = images.remove(images.size() - 1);
        return images.size();
    }

    public int status(int what) {
        return what < 0 || what > 2 ? NONE : refused[what];
    }

    public int count(int what) {
        List<Integer> counts = Arrays.asList(images.size(), tape.length(), kept.things.size());
        return what < 0 || what > 2 ? NONE : counts.get(what);
    }
}
