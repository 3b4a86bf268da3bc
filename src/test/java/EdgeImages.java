/** Sentences of promises 31 to 34: IMAGES, refusals, counts. */
final class EdgeImages {
    private EdgeImages() {
    }

    static void run() {
        Sentence.says("An IMAGE of the MONTH and all that goes on, of odds, SIGNS, offers: how many there are;", EdgeImages::image);
        Sentence.says("-1: there are 3.", EdgeImages::thereAreThree);
        Sentence.says("All is as in the latest IMAGE, which is gone: how many are left;", EdgeImages::restore);
        Sentence.says("-1: there is none.", EdgeImages::thereIsNone);
        Sentence.says("How many calls were refused: 0 NoSuchElementException, 1 IndexOutOfBoundsException, 2 IllegalArgumentException; "
            + "NONE for others.", EdgeImages::status);
        Sentence.says("(No IMAGE keeps it.)", EdgeImages::noImageKeepsIt);
        Sentence.says("0 IMAGES, 1 bytes of the TAPE, 2 things seen; NONE for others.", EdgeImages::count);
    }

    private static HiredEnemy busy() {
        HiredEnemy x = Check.with("wall 8 1;wall 5 2;duke 700 130 2;enemy 300 170 7;town 2000 90;fear 60 3 9;mason 3;",
            "pay 11;winter 12;near 3;corks 9;bonus 7;till 30;breach 0 0;breach 1 1;breach 1 35;", "pay 1;till 5;corks 3;");
        x.sign(0);
        x.months(4);
        x.sign(1);
        x.months(2);
        x.odds(3, 4);
        x.kind(0, 1, 2);
        x.seen(0);
        x.offers(2, 3, 9);
        return x;
    }

    private static void image() {
        HiredEnemy x = busy();
        String before = Check.state(x);
        Check.due("1", x::image, 1);
        Check.same("it changes nothing", Check.state(x), before);
        Check.due("nor what was seen and offered", () -> x.believed(0) * 1000 + x.believed(1) * 100 + x.count(2) * 10 + x.most(), 3819);
        Check.due("2", x::image, 2);
        Check.due("3", x::image, 3);
        HiredEnemy kept = busy();
        String then = Check.whole(kept);
        kept.image();
        kept.undo(5);
        kept.sign(-1);
        kept.months(90);
        kept.odds(1, 9);
        kept.kind(0, 5, 7);
        kept.seen(0);
        kept.seen(1);
        kept.offers(2, 3, 8);
        kept.offers(1, 9, 8);
        kept.restore();
        Check.same("the MONTH and all that goes on, odds, SIGNS seen, offers", Check.whole(kept), then);
        kept.seen(0);
        Check.due("in how many of 16", () -> kept.believed(0) * 100 + kept.believed(1), 316);
        HiredEnemy odds = busy();
        odds.image();
        odds.odds(5, 9);
        odds.restore();
        odds.siege(0);
        Check.due("odds at first, too", () -> odds.believed(0) * 10 + odds.believed(1), 34);
        HiredEnemy other = busy();
        kept.months(30);
        other.months(30);
        Check.same("what comes", Check.state(kept), Check.state(other));
        kept.undo(36);
        other.undo(36);
        Check.same("what can be undone", Check.state(kept), Check.state(other));
    }

    private static void thereAreThree() {
        HiredEnemy x = busy();
        for (int i = 1; i <= 3; i++) {
            int images = i;
            x.months(1);
            Check.due("image", x::image, images);
        }
        x.months(1);
        String before = Check.whole(x);
        Check.due("a 4th", x::image, -1);
        Check.due("a 5th", x::image, -1);
        Check.same("all stays", Check.whole(x), before);
        Check.due("no exception is counted", () -> x.status(0) + x.status(1) + x.status(2), 0);
        x.restore();
        Check.due("the 3rd is what it was", () -> x.told(2), 9);
        Check.due("there is room for one", x::image, 3);
        Check.due("no more", x::image, -1);
    }

    private static void restore() {
        HiredEnemy x = busy();
        for (int i = 1; i <= 3; i++) {
            x.months(1);
            x.offers(1, 0, i);
            x.image();
        }
        x.months(50);
        for (int i = 3; i >= 1; i--) {
            int images = i;
            Check.due("how many are left", x::restore, images - 1);
            Check.due("the latest of them", () -> x.told(2), 6 + images);
            Check.due("its offers", () -> x.offers(1, 0, 0), images);
            Check.due("it is gone", () -> x.count(0), images - 1);
        }
        HiredEnemy back = busy();
        String then = Check.whole(back);
        back.image();
        back.undo(6);
        back.restore();
        Check.same("MONTHS undone are there again", Check.whole(back), then);
        HiredEnemy texts = busy();
        texts.image();
        Check.contract(texts, "pay 77;");
        Check.feed(texts, "pay 88;");
        texts.restore();
        Check.due("CONTRACTS told are not of it", () -> texts.rule(2, 0), 77);
        Check.due("nor is the TAPE", () -> texts.contract(7), 3);
        HiredEnemy end = new HiredEnemy();
        end.months(120);
        end.image();
        end.undo(120);
        end.restore();
        Check.due("MONTH 120", () -> end.told(2), 120);
        Check.due("all can be undone", () -> end.undo(120), 120);
        HiredEnemy late = busy();
        late.months(114);
        String last = Check.whole(late);
        late.image();
        late.undo(120);
        late.sign(-1);
        late.months(120);
        late.restore();
        Check.same("all 120 MONTHS, though others went by", Check.whole(late), last);
        late.undo(119);
        Check.due("what was in force as MONTH 1 began", () -> late.told(3) * 10 + late.told(4), 1);
        HiredEnemy start = busy();
        start.undo(6);
        start.image();
        start.months(120);
        start.restore();
        Check.due("MONTH 0", () -> start.told(2), 0);
        Check.due("nothing can be undone", () -> start.undo(120), 0);
    }

    private static void thereIsNone() {
        HiredEnemy x = busy();
        String before = Check.whole(x);
        Check.due("none", x::restore, -1);
        Check.same("all stays", Check.whole(x), before);
        x.image();
        Check.due("one", x::restore, 0);
        Check.due("none any more", x::restore, -1);
        Check.same("all stays behind it", Check.whole(x), before);
        Check.due("no exception is counted", () -> x.status(0) + x.status(1) + x.status(2), 0);
    }

    private static void status() {
        HiredEnemy x = busy();
        for (int i = 1; i <= 40; i++) {
            int many = i;
            Check.answer(() -> x.rule(9, 0));
            Check.due("NoSuchElementException", () -> x.status(0), many);
            Check.answer(() -> x.wall(9, 0));
            Check.due("IndexOutOfBoundsException", () -> x.status(1), many);
            Check.answer(() -> x.sums(10));
            Check.due("IllegalArgumentException", () -> x.status(2), many);
        }
        for (int what : new int[] {-1, 3, 4, Integer.MAX_VALUE, Integer.MIN_VALUE}) {
            Check.due("others: " + what, () -> x.status(what), -1);
        }
        Check.due("which is no refusal", () -> x.status(0) + x.status(1) + x.status(2), 120);
    }

    private static void noImageKeepsIt() {
        HiredEnemy x = busy();
        Check.answer(() -> x.rule(9, 0));
        x.image();
        Check.answer(() -> x.rule(9, 0));
        Check.answer(() -> x.wall(9, 0));
        Check.answer(() -> x.sums(10));
        x.restore();
        Check.due("NoSuchElementException", () -> x.status(0), 2);
        Check.due("IndexOutOfBoundsException", () -> x.status(1), 1);
        Check.due("IllegalArgumentException", () -> x.status(2), 1);
        x.undo(6);
        x.siege(0);
        Check.due("nor does a SIEGE or undo() forget it", () -> x.status(0) * 100 + x.status(1) * 10 + x.status(2), 211);
    }

    private static void count() {
        HiredEnemy x = new HiredEnemy();
        for (int i = 1; i <= 25; i++) {
            int many = i;
            x.image();
            x.feed(1, 2, 3, 4, 5);
            x.spy(true, 9);
            Check.due("IMAGES", () -> x.count(0), Math.min(many, 3));
            Check.due("bytes of the TAPE", () -> x.count(1), 20 * many);
            Check.due("things seen", () -> x.count(2), Math.min(many, 12));
        }
        for (int what : new int[] {-1, 3, 4, Integer.MAX_VALUE, Integer.MIN_VALUE}) {
            Check.due("others: " + what, () -> x.count(what), -1);
        }
        Check.due("which is no refusal", () -> x.status(0) + x.status(1) + x.status(2), 0);
    }
}
