/** Promises 31 to 34: IMAGES, refusals, counts. */
public final class ImagesTest {
    public static void main(String[] args) {
        images();
        restored();
        status();
        counts();
        Check.end("ImagesTest");
    }

    private static void images() {
        HiredEnemy x = new HiredEnemy();
        Check.due("32: none", x::restore, -1);
        for (int i = 1; i <= 3; i++) {
            int want = i;
            x.offers(1, 0, i);
            Check.due("31: image", x::image, want);
        }
        x.offers(1, 0, 4);
        Check.due("31: there are 3", x::image, -1);
        Check.due("31: it took none", () -> x.offers(1, 0, 4), 4);
        for (int i = 2; i >= 0; i--) {
            int want = i;
            Check.due("32: left", x::restore, want);
            Check.due("32: the latest", x::most, want + 1);
            Check.due("34: images", () -> x.count(0), want);
        }
        Check.due("32: none any more", x::restore, -1);
        x.offers(1, 0, 77);
        Check.due("31: anew", x::image, 1);
        x.offers(1, 0, 0);
        x.restore();
        Check.due("31: kept anew", x::most, 77);
    }

    private static void restored() {
        HiredEnemy x = Check.with("wall 9 1;wall 5 0;", "corks 7;near 2;pay 3;", "corks 9;");
        x.sign(0);
        x.months(4);
        x.sign(1);
        x.months(2);
        x.odds(3, 4);
        x.kind(0, 1, 2);
        x.seen(0);
        x.offers(2, 3, 9);
        String before = Check.state(x);
        x.image();
        x.undo(5);
        x.sign(-1);
        x.months(90);
        x.odds(1, 9);
        x.kind(0, 5, 7);
        x.offers(2, 3, 8);
        x.seen(0);
        x.seen(1);
        Check.feed(x, "x");
        Check.illegal("a text", () -> x.siege(21));
        Check.due("a fault", () -> x.siege(1), -9);
        Check.feed(x, "pay 4;");
        Check.due("32: gone", x::restore, 0);
        Check.due("32: no image keeps refusals", () -> x.status(2), 1);
        Check.due("32: the tape stays", () -> x.count(1), 20);
        Check.due("32: the fault stays", x::fault, 0);
        Check.same("32: months, walls, corks", Check.state(x), before);
        Check.due("32: things", () -> x.count(2), 1);
        Check.due("32: odds", () -> x.believed(0) * 10 + x.believed(1), 38);
        x.seen(0);
        Check.due("32: kinds", () -> x.believed(0) * 100 + x.believed(1), 316);
        Check.due("32: offers", x::most, 9);
        Check.due("32: what can be undone", () -> x.undo(3), 3);
        Check.due("32: what was in force then", () -> x.told(3) * 10 + x.told(4), 3);
        Check.due("32: all of it", () -> x.undo(120), 3);
        Check.due("32: the walls then", () -> x.wall(0, 1) * 10 + x.wall(1, 1), 95);
        x.image();
        x.contract(6);
        x.restore();
        Check.due("32: contracts stay", () -> x.told(1), 3);
        x.image();
        x.siege(0);
        Check.due("3: no images", x::restore, -1);
        Check.due("32: odds at first are the image's", () -> x.believed(0) * 10 + x.believed(1), 34);
    }

    private static void status() {
        HiredEnemy x = Check.with("wall 9 1;", "pay 1;");
        Check.noContract("33", () -> x.sign(1));
        Check.noContract("33", () -> x.rule(1, 0));
        Check.noContract("33", () -> x.would(1, 1, 1));
        Check.noWall("33", () -> x.wall(1, 0));
        Check.noWall("33", () -> x.corks(0, 1));
        Check.illegal("33", () -> x.months(0));
        x.image();
        Check.illegal("33", () -> x.sums(10));
        x.restore();
        Check.illegal("33", () -> x.wall(0, 4));
        Check.illegal("33", () -> x.rule(0, 7));
        x.siege(0);
        Check.due("33: contracts", () -> x.status(0), 3);
        Check.due("33: walls", () -> x.status(1), 2);
        Check.due("33: arguments", () -> x.status(2), 4);
        for (int n : new int[] {-1, 3, Integer.MAX_VALUE, Integer.MIN_VALUE}) {
            Check.due("33: others", () -> x.status(n), -1);
            Check.due("34: others", () -> x.count(n), -1);
        }
        Check.due("33: these are no refusals", () -> x.status(2), 4);
    }

    private static void counts() {
        HiredEnemy x = new HiredEnemy();
        x.feed(0, 0, 0, 0, 0);
        x.feed(0, 0, 0, 0, 0);
        x.image();
        x.image();
        x.seen(1);
        x.spy(false, 3);
        x.seen(2);
        Check.due("34: images", () -> x.count(0), 2);
        Check.due("34: bytes", () -> x.count(1), 40);
        Check.due("34: things", () -> x.count(2), 3);
    }
}
