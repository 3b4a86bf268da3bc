/** Sentences of the Terms and of promises 15 to 19: what is found by trying. */
final class EdgeTrying {
    private static final String FLAT = "duke 500 0 0;enemy 0 0 0;town 0 0;fear 0 0 0;";
    // No NEARNESS frightens here, so that corks alone do.
    private static final String DEAF = "near 0 0;near 1 0;near 2 0;near 3 0;near 4 0;near 5 0;near 6 0;near 7 0;near 8 0;";

    private EdgeTrying() {
    }

    static void run() {
        Sentence.says("All by trying, nothing stays changed;", EdgeTrying::nothingChanges);
        Sentence.says("n MONTHS, 1 to 60, from now on,", EdgeTrying::months);
        Sentence.says("a CONTRACT SIGNED now (in place of what is in force).", EdgeTrying::signedNow);
        Sentence.says("BEST: the CONTRACT told (or none) by which the duke has most coin n MONTHS on, of these the first (none last).",
            EdgeTrying::best);
        Sentence.says("OFFERS: R 0 to 9, corks 0 to 20;", EdgeTrying::offered);
        Sentence.says("pay what the enemy wants (cost; no winter, bonus, breach; for all n):", EdgeTrying::offeredPay);
        Sentence.says("that by which the duke has most n MONTHS on, of these the first (R, then corks).", EdgeTrying::firstOffer);
        Sentence.says("HOW NEAR: the least R for which pay of so much is enough with so many corks.", EdgeTrying::howNear);
        Sentence.says("STOP: the number of MONTHS (0 to n) after which the CONTRACT in force is ended, "
            + "by which the duke has most n MONTHS on, of these the least.", EdgeTrying::stop);
        Sentence.says("What would be n MONTHS on, if a CONTRACT (or NONE) is SIGNED: 0 to 9 as in sums().", EdgeTrying::would);
        Sentence.says("BEST: 0 the CONTRACT (NONE: none), 1 the coin.", EdgeTrying::bestAsked);
        Sentence.says("OFFERS: 0 R, 1 corks, 2 pay, 3 the coin.", EdgeTrying::offerAsked);
        Sentence.says("HOW NEAR (pay 0 to 9,999, corks 0 to 99); NONE: not even at 9.", EdgeTrying::nearestAsked);
        Sentence.says("STOP: 0 the MONTHS, 1 the coin.", EdgeTrying::stopAsked);
    }

    /** A duke who wins by frightening his town. */
    private static HiredEnemy busy() {
        HiredEnemy x = Check.with("wall 4 1;wall 3 0;duke 300 300 2;enemy 10 50 3;town 9000 50;fear 20 10 5;mason 2;cost 3 1;",
            "pay 20;near 4;corks 5;breach 1 0;bonus 7;till 9;winter 30;", "pay 60;near 0;corks 20;", "pay 999;", "");
        x.sign(1);
        x.months(7);
        return x;
    }

    private static void nothingChanges() {
        HiredEnemy x = busy();
        x.seen(0);
        x.offers(1, 3, 5);
        x.image();
        String before = Check.whole(x);
        x.would(0, 60, 0);
        Check.same("would()", Check.whole(x), before);
        x.would(-1, 60, 0);
        Check.same("would() of none", Check.whole(x), before);
        x.best(60, 0);
        Check.same("best()", Check.whole(x), before);
        x.offer(60, 3);
        Check.same("offer()", Check.whole(x), before);
        x.nearest(9999, 99);
        Check.same("nearest()", Check.whole(x), before);
        x.stop(60, 0);
        Check.same("stop()", Check.whole(x), before);
        HiredEnemy other = busy();
        x.months(20);
        other.months(20);
        Check.same("nor does what comes", Check.state(x), Check.state(other));
        x.undo(25);
        other.undo(25);
        Check.same("nor what was", Check.state(x), Check.state(other));
    }

    private static void months() {
        HiredEnemy x = busy();
        Check.outside("would(): n", x, 1, 60, n -> x.would(0, (int) n, 0));
        Check.outside("best(): n", x, 1, 60, n -> x.best((int) n, 0));
        Check.outside("offer(): n", x, 1, 60, n -> x.offer((int) n, 0));
        Check.outside("stop(): n", x, 1, 60, n -> x.stop((int) n, 0));
        Check.inside("would(): n", 1, 60, n -> x.would(0, (int) n, 0));
        Check.inside("best(): n", 1, 60, n -> x.best((int) n, 0));
        Check.inside("offer(): n", 1, 60, n -> x.offer((int) n, 0));
        Check.inside("stop(): n", 1, 60, n -> x.stop((int) n, 0));
        HiredEnemy paid = Check.with("duke 9999 0 0;enemy 0 0 0;town 0 0;", "pay 1;");
        paid.months(30);
        for (int n = 1; n <= 36; n++) {
            int months = n;
            Check.due("from now on: " + n, () -> paid.would(0, months, 1), n);
        }
        paid.months(60);
        Check.due("30 more", () -> paid.would(0, 30, 1), 30);
        Check.due("120 at most go by", () -> paid.would(0, 31, 1), 30);
        Check.due("likewise for 60", () -> paid.would(0, 60, 1), 30);
        paid.months(30);
        Check.due("none goes by", () -> paid.would(0, 60, 0), 9999);
    }

    private static void signedNow() {
        HiredEnemy x = Check.with("duke 9999 0 0;enemy 0 0 0;town 0 0;", "pay 5;till 3;", "pay 7;");
        x.sign(0);
        x.months(2);
        Check.due("the same anew, from its MONTH 0 on", () -> x.would(0, 9, 1), 10 + 15);
        Check.due("another in place of it", () -> x.would(1, 9, 1), 10 + 63);
        Check.due("none in place of it", () -> x.would(-1, 9, 1), 10);
    }

    private static void best() {
        HiredEnemy same = Check.with(FLAT, "pay 3;", "", "corks 5;", "pay 0;");
        Check.due("none is the last of the same", () -> same.best(9, 0), 1);
        HiredEnemy dear = Check.with(FLAT, "pay 3;", "pay 2;", "pay 2;");
        Check.due("none is better than all", () -> dear.best(9, 0), -1);
        Check.due("its coin", () -> dear.best(9, 1), 500);
        HiredEnemy untold = Check.with(FLAT);
        Check.due("none is told", () -> untold.best(1, 0), -1);
        Check.due("none is told: the coin", () -> untold.best(1, 1), 500);
        String fear = "duke 500 900 0;enemy 0 0 0;town 9999 100;fear 0 0 0;";
        HiredEnemy last = Check.with(fear, "pay 40;near 1;", "pay 41;near 1;", "pay 39;near 1;", "pay 39;near 1;", "pay 90;", "pay 39;near 1;");
        Check.due("the first of three", () -> last.best(6, 0), 2);
        HiredEnemy sixth = Check.with(fear, "pay 9;", "pay 9;", "pay 9;", "pay 9;", "pay 9;", "near 0;");
        Check.due("the 6th", () -> sixth.best(60, 0), 5);
        HiredEnemy cooks = Check.with("duke 500 100 3;enemy 0 0 3;town 0 0;", "pay 1;");
        Check.due("none: the coin n MONTHS on", () -> cooks.best(5, 1), 500 - 150);
        HiredEnemy poor = Check.with("duke 0 0 0;enemy 0 0 0;town 0 0;", "pay 1;");
        Check.due("0 coin each: the first", () -> poor.best(60, 0), 0);
        Check.due("0 coin", () -> poor.best(60, 1), 0);
    }

    private static void offered() {
        String rest = "mason 0;duke 99 900 0;enemy 0 0 0;town 9999 100;";
        HiredEnemy far = Check.with(rest + "cost 0 1;fear 0 0 0;" + DEAF + "near 9 20;");
        Check.due("R 9 is tried", () -> far.offer(2, 0), 9);
        HiredEnemy close = Check.with(rest + "cost 0 1;fear 0 0 0;" + DEAF + "near 0 20;");
        Check.due("R 0 is tried", () -> close.offer(2, 0), 0);
        HiredEnemy twenty = Check.with("wall 20 50;" + rest + "cost 1 0;fear 0 50 0;" + DEAF);
        Check.due("20 corks are tried", () -> twenty.offer(2, 1), 20);
        HiredEnemy more = Check.with("wall 31 50;" + rest + "cost 1 0;fear 0 50 0;" + DEAF);
        // 31 are felled by 21 corks with every second one 2, and 20 of them take 30.
        Check.due("21 corks are not", () -> more.offer(2, 1), 0);
        HiredEnemy thirty = Check.with("wall 30 50;" + rest + "cost 1 0;fear 0 50 0;" + DEAF);
        Check.due("20 at 4", () -> thirty.offer(2, 0) * 100 + thirty.offer(2, 1), 420);
        HiredEnemy none = Check.with(FLAT);
        Check.due("0 corks are tried", () -> none.offer(60, 1), 0);
    }

    private static void offeredPay() {
        HiredEnemy x = Check.with(FLAT + "cost 3 1;", "pay 100;winter 200;bonus 99;");
        x.sign(0);
        Check.due("pay", () -> x.offer(60, 2), 3);
        Check.due("winter and summer, beyond 36 MONTHS: for all 60", () -> x.offer(60, 3), 500 - 180);
        Check.due("for all 36", () -> x.offer(36, 3), 500 - 108);
        Check.due("for all 37", () -> x.offer(37, 3), 500 - 111);
        Check.due("for all 1", () -> x.offer(1, 3), 497);
        HiredEnemy loud = Check.with("wall 1 0;mason 0;duke 500 900 0;enemy 0 0 0;town 9999 100;fear 0 1 0;cost 0 0;" + DEAF);
        // 20 breaches a MONTH without bonus: TAXES are 180 in the second MONTH, all that is paid.
        Check.due("no bonus", () -> loud.offer(2, 3), 500 + 180);
        Check.due("corks", () -> loud.offer(2, 1), 20);
        HiredEnemy dear = Check.with("duke 99 999 0;enemy 0 0 0;town 9999 100;fear 0 0 0;cost 99 99;near 0 20;");
        Check.due("pay may be more than 999", () -> dear.wants(0, 20), 2970);
        Check.due("what can't be paid costs nothing", () -> dear.offer(2, 3), 99);
        Check.due("the first of what can't be paid", () -> dear.offer(2, 2), 990);
        HiredEnemy broke = Check.with("duke 0 0 0;enemy 0 0 0;town 0 0;cost 99 99;");
        Check.due("in DEFAULT all the same: the first", () -> broke.offer(60, 0) * 100 + broke.offer(60, 1), 0);
        Check.due("and its pay", () -> broke.offer(60, 2), 990);
    }

    private static void firstOffer() {
        HiredEnemy free = Check.with("wall 9 0;" + FLAT + "cost 0 0;");
        Check.due("all the same: R 0, corks 0", () -> free.offer(60, 0) * 100 + free.offer(60, 1), 0);
        HiredEnemy flat = Check.with(FLAT + "cost 2 0;");
        Check.due("the same for all corks: R 9, corks 0", () -> flat.offer(60, 0) * 100 + flat.offer(60, 1), 900);
        HiredEnemy corks = Check.with("wall 16 50;mason 0;duke 99 900 0;enemy 0 0 0;town 9999 100;fear 0 50 50;cost 0 0;" + DEAF);
        // 20 corks fell the WALL once, near or far; FEAR is 50 less each MONTH, so none of it is left.
        Check.due("the same for all R and corks", () -> corks.offer(9, 0) * 100 + corks.offer(9, 1), 0);
        HiredEnemy two = Check.with("wall 12 50;mason 0;duke 99 900 0;enemy 0 0 0;town 9999 100;fear 0 50 0;cost 0 0;" + DEAF);
        // 1, 2, 1, 2, .. 8 corks take 12 at R 0 to 4; a second breach (100 of FEAR) by 16.
        Check.due("R first, then corks", () -> two.offer(2, 0) * 100 + two.offer(2, 1), 16);
    }

    private static void howNear() {
        HiredEnemy x = Check.with("cost 10 2;");
        Check.due("enough for 9", () -> x.nearest(10, 0), 9);
        Check.due("not enough for 8", () -> x.nearest(19, 0), 9);
        Check.due("enough for 8", () -> x.nearest(20, 0), 8);
        Check.due("enough for 8, not with a cork", () -> x.nearest(20, 1), 9);
        Check.due("enough for 8 with a cork", () -> x.nearest(22, 1), 8);
        Check.due("not enough for 0", () -> x.nearest(99, 0), 1);
        Check.due("enough for 0", () -> x.nearest(100, 0), 0);
        Check.due("more than enough", () -> x.nearest(9999, 99), 0);
        Check.due("without A all are the same: the least", () -> Check.with("cost 0 2;").nearest(4, 2), 0);
    }

    private static void stop() {
        HiredEnemy dear = Check.with(FLAT, "pay 5;");
        dear.sign(0);
        Check.due("at once: 0", () -> dear.stop(60, 0), 0);
        Check.due("none in force: 0", () -> Check.with(FLAT).stop(60, 0), 0);
        HiredEnemy free = Check.with(FLAT, "");
        free.sign(0);
        Check.due("the same for all: the least", () -> free.stop(60, 0), 0);
        String fear = "duke 500 100 0;enemy 0 0 0;town 9999 100;fear 0 0 0;";
        HiredEnemy worth = Check.with(fear, "pay 20;near 0;till 36;");
        worth.sign(0);
        // A MONTH of it brings 9 of FEAR: 9 coin in each MONTH that comes; it costs 20.
        for (int n = 1; n <= 12; n++) {
            int months = n;
            Check.due("of " + n + " as many as have 3 behind them", () -> worth.stop(months, 0), n > 3 ? n - 3 : 0);
        }
        HiredEnemy paid = Check.with(fear, "near 0;winter 0;");
        paid.sign(0);
        Check.due("the last MONTH brings nothing: not n, but n less 1", () -> paid.stop(5, 0), 4);
        HiredEnemy all = Check.with("wall 9 3;duke 500 100 0;enemy 0 0 0;town 9999 100;fear 100 0 1;mason 1;", "near 8;till 9;");
        all.sign(0);
        Check.due("100 at most: FEAR stays by it, as it counts in the next MONTH", () -> all.stop(3, 0), 2);
        HiredEnemy full = Check.with("wall 9 1;mason 9;duke 100 0 0;enemy 0 0 0;town 0 0;", "corks 8;till 1;", "corks 2;");
        full.sign(0);
        full.months(1);
        full.sign(1);
        // 2 corks fell the WALL, which is full at once, so that nothing is to be mended.
        Check.due("n itself", () -> full.stop(1, 0), 1);
        HiredEnemy ended = Check.with(fear, "near 0;till 2;");
        ended.sign(0);
        Check.due("behind its end it is the same: the least", () -> ended.stop(9, 0), 2);
        ended.months(1);
        Check.due("from now on", () -> ended.stop(9, 0), 1);
        ended.sign(0);
        Check.due("the one that is in force, from its MONTH on", () -> ended.stop(9, 0), 2);
    }

    private static void would() {
        HiredEnemy x = busy();
        for (int c = -1; c < 4; c++) {
            for (int n = 1; n <= 60; n += n < 10 ? 1 : 50) {
                HiredEnemy y = busy();
                y.sign(c);
                y.months(n);
                for (int i = 0; i < 10; i++) {
                    int contract = c;
                    int months = n;
                    int what = i;
                    Check.due("would(" + c + ", " + n + ", " + i + ")", () -> x.would(contract, months, what), y.sums(i));
                }
            }
        }
        Check.outside("what", x, 0, 9, what -> x.would(0, 1, (int) what));
        for (int c : new int[] {4, -2, Integer.MAX_VALUE, Integer.MIN_VALUE}) {
            Check.refused("contract " + c, x, "NoSuchElementException", () -> x.would(c, 1, 0));
        }
        HiredEnemy untold = new HiredEnemy();
        Check.refused("none is told", untold, "NoSuchElementException", () -> untold.would(0, 1, 0));
    }

    private static void bestAsked() {
        HiredEnemy x = busy();
        Check.outside("what", x, 0, 1, what -> x.best(1, (int) what));
        HiredEnemy none = Check.with(FLAT, "pay 3;");
        Check.due("NONE: none", () -> none.best(7, 0), -1);
        Check.due("the coin", () -> none.best(7, 1), 500);
        HiredEnemy gift = Check.with(FLAT, "pay 3;", "");
        Check.due("the CONTRACT", () -> gift.best(7, 0), 1);
    }

    private static void offerAsked() {
        HiredEnemy x = busy();
        Check.outside("what", x, 0, 3, what -> x.offer(1, (int) what));
        HiredEnemy y = Check.with("wall 20 50;mason 0;duke 99 900 0;enemy 0 0 0;town 9999 100;cost 1 0;fear 0 50 0;" + DEAF);
        Check.due("R", () -> y.offer(2, 0), 9);
        Check.due("corks", () -> y.offer(2, 1), 20);
        Check.due("pay", () -> y.offer(2, 2), 1);
        Check.due("the coin", () -> y.offer(2, 3), 99 + 450 - 2);
    }

    private static void nearestAsked() {
        HiredEnemy x = busy();
        Check.outside("pay", x, 0, 9999, pay -> x.nearest((int) pay, 0));
        Check.outside("corks", x, 0, 99, corks -> x.nearest(0, (int) corks));
        Check.inside("pay", 0, 9999, pay -> x.nearest((int) pay, 0));
        Check.inside("corks", 0, 99, corks -> x.nearest(0, (int) corks));
        HiredEnemy dear = Check.with("cost 99 99;");
        Check.due("just enough at 9", () -> dear.nearest(9900, 99), 9);
        Check.due("not even at 9", () -> dear.nearest(9899, 99), -1);
        Check.due("nothing", () -> dear.nearest(0, 0), -1);
        Check.due("nothing is wanted", () -> Check.with("cost 0 0;").nearest(0, 99), 0);
    }

    private static void stopAsked() {
        HiredEnemy x = busy();
        Check.outside("what", x, 0, 1, what -> x.stop(1, (int) what));
        HiredEnemy worth = Check.with("duke 500 100 0;enemy 0 0 0;town 9999 100;fear 0 0 0;", "pay 20;near 0;");
        worth.sign(0);
        Check.due("the MONTHS", () -> worth.stop(6, 0), 3);
        // 0, 9, 18, 27, 27, 27 of TAXES, 60 of PAY.
        Check.due("the coin", () -> worth.stop(6, 1), 500 + 108 - 60);
    }
}
