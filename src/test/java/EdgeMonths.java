/** Sentences of the Terms: a MONTH, (a) to (h), in its order. */
final class EdgeMonths {
    private static final String STILL = "duke 500 0 0;enemy 0 0 0;town 0 0;fear 0 0 0;";

    private EdgeMonths() {
    }

    static void run() {
        Sentence.says("A MONTH (numbered from 0 on;", EdgeMonths::numbered);
        Sentence.says("120 at most go by),", EdgeMonths::atMost120);
        Sentence.says("by the CONTRACT in force (from the MONTH in which it is SIGNED on: its MONTH 0;", EdgeMonths::inForce);
        Sentence.says("none: (b) to (d) are not), in this order.", EdgeMonths::noneInForce);
        Sentence.says("(a) TAXES: the town pays the duke men of his times TAX times FEAR, by 10,000", EdgeMonths::taxes);
        Sentence.says("10,000 (cut; what it has at most).", EdgeMonths::taxesAtMost);
        Sentence.says("(b) PAY: the duke pays;", EdgeMonths::pay);
        Sentence.says("if he has less, the CONTRACT ends, unpaid", EdgeMonths::unpaid);
        Sentence.says("(he is in DEFAULT; (c), (d) are not).", EdgeMonths::inDefault);
        Sentence.says("(c) CORKS one by one: at the WALL told for this MONTH,", EdgeMonths::atTheWallTold);
        Sentence.says("else at that with the least STRENGTH left, of these the first;", EdgeMonths::atTheLeast);
        Sentence.says("each takes 1, with NEARNESS R 0 to 4 every second one (the 2nd, 4th, ..) 2.", EdgeMonths::takes);
        Sentence.says("A WALL at 0 is BREACHED:", EdgeMonths::breached);
        Sentence.says("FEAR is B more (100 at most),", EdgeMonths::fearOfBreaches);
        Sentence.says("the duke pays bonus (what he has at most);", EdgeMonths::bonus);
        Sentence.says("it is at full STRENGTH again at once (noon: for visitors).", EdgeMonths::fullAgain);
        Sentence.says("A WALL told for this MONTH that did not fall: MISSED.", EdgeMonths::missed);
        Sentence.says("(d) FEAR is more by what NEARNESS tells (100 at most).", EdgeMonths::fearOfNearness);
        Sentence.says("(e) FEAR is D less (0 at least).", EdgeMonths::fearLess);
        Sentence.says("(f) MENDED: each WALL by H, to its STRENGTH,", EdgeMonths::mended);
        Sentence.says("as far as the duke can pay the town for it", EdgeMonths::canPay);
        Sentence.says("(P each; WALL by WALL).", EdgeMonths::wallByWall);
        Sentence.says("(g) COOKS: each side pays the town its COOKS for each 10 men", EdgeMonths::cooks);
        Sentence.says("10 men (cut; what it has at most).", EdgeMonths::cooksAtMost);
        Sentence.says("DESERTERS: of the side with lesser COOKS men times how much lesser, by 100 (cut), go over to the other one.",
            EdgeMonths::deserters);
        Sentence.says("(h) the CONTRACT ends behind its last MONTH.", EdgeMonths::ends);
        Sentence.says("COIN adds up: duke's, enemy's, town's.", EdgeMonths::coinAddsUp);
        Sentence.says("Each CORK is led: by MONTH and WALL.", EdgeMonths::led);
    }

    /** So many MONTHS by the first CONTRACT. */
    private static HiredEnemy after(int months, String siege, String contract) {
        HiredEnemy x = Check.with(siege, contract);
        x.sign(0);
        x.months(months);
        return x;
    }

    private static void sum(String what, HiredEnemy x, int sum, long want) {
        Check.due(what, () -> x.sums(sum), want);
    }

    private static void numbered() {
        HiredEnemy x = new HiredEnemy();
        for (int i = 0; i < 120; i++) {
            Check.due("MONTH", () -> x.told(2), i);
            x.months(1);
        }
    }

    private static void atMost120() {
        HiredEnemy x = Check.with("wall 9 0;duke 900 0 0;enemy 0 0 0;town 0 0;", "corks 1;pay 1;");
        Check.due("119", () -> x.months(119), 119);
        x.sign(0);
        Check.due("the 120th of 2", () -> x.months(2), 1);
        Check.due("MONTH 120 is now", () -> x.told(2), 120);
        Check.due("its corks", () -> x.corks(119, 0), 1);
        String before = Check.whole(x);
        Check.due("no 121st", () -> x.months(1), 0);
        Check.due("nor 120 more", () -> x.months(120), 0);
        Check.same("all stays", Check.whole(x), before);
        Check.due("signed, though none goes by", () -> x.sign(-1), 0);
        HiredEnemy all = new HiredEnemy();
        Check.due("120 at once", () -> all.months(120), 120);
    }

    private static void inForce() {
        HiredEnemy x = Check.with("wall 9 0;wall 7 0;" + STILL, "pay 5;corks 1;breach 0 0;breach 0 2;till 4;");
        x.months(7);
        sum("nothing ahead of it", x, 1, 0);
        x.sign(0);
        Check.due("its MONTH 0", () -> x.told(4), 0);
        for (int i = 0; i < 3; i++) {
            x.months(1);
            sum("paid from the MONTH on in which it is SIGNED", x, 1, 5 * (i + 1));
            Check.due("its MONTH", () -> x.told(4), i + 1);
        }
        Check.due("corks of its MONTH 0", () -> x.corks(7, 0) * 10 + x.corks(7, 1), 10);
        Check.due("corks of its MONTH 1", () -> x.corks(8, 0) * 10 + x.corks(8, 1), 1);
        Check.due("corks of its MONTH 2", () -> x.corks(9, 0) * 10 + x.corks(9, 1), 10);
        Check.due("SIGNED once more", () -> x.sign(0), 0);
        Check.due("is its MONTH 0 again", () -> x.told(4), 0);
        x.months(1);
        Check.due("corks of its MONTH 0", () -> x.corks(10, 0), 1);
    }

    private static void noneInForce() {
        HiredEnemy x = Check.with("wall 9 3;duke 100 100 1;enemy 50 100 2;town 900 50;fear 40 9 5;near 9 20;mason 1;",
            "pay 10;corks 4;near 9;");
        Check.due("of the duke: (a), (g)", () -> x.would(-1, 1, 0), 100 + 20 - 10);
        Check.due("of the enemy: (g)", () -> x.would(-1, 1, 1), 50 - 20);
        Check.due("FEAR: (e)", () -> x.would(-1, 1, 5), 35);
        Check.due("deserters: (g)", () -> x.would(-1, 1, 3), 99);
        Check.due("no corks", () -> x.would(-1, 1, 9), 0);
        x.sign(0);
        x.months(1);
        sum("FEAR: (d), (e)", x, 5, 55);
        sum("of the duke: (a), (b), (f), (g)", x, 0, 100 + 20 - 10 - 3 - 10);
        x.sign(-1);
        x.months(1);
        Check.due("a WALL is mended without, too: (f)", () -> x.wall(0, 1), 9);
        sum("and paid", x, 0, 97 + 99 * 50 * 55 / 10000 - 1 - 9);
        sum("(b), (c) are not", x, 9, 4);
        sum("(d) is not", x, 5, 50);
    }

    private static void taxes() {
        HiredEnemy x = after(1, "duke 7 250 0;enemy 0 0 0;town 9999 40;fear 30 0 0;", "");
        sum("250 times 40 times 30 by 10,000", x, 0, 7 + 30);
        sum("the town's", x, 2, 9999 - 30);
        sum("the enemy's", x, 1, 0);
        HiredEnemy most = after(1, "duke 0 999 0;enemy 0 0 0;town 9999 100;fear 100 0 0;", "");
        sum("the most at first", most, 0, 999);
        HiredEnemy more = Check.with("duke 0 999 9;enemy 0 999 0;town 9999 100;fear 100 0 0;");
        more.months(3);
        int men = more.sums(3);
        int coin = more.sums(0);
        int cooks = 9 * (men / 10);
        more.months(1);
        sum("of more than 1,000 men", more, 0, Math.max(0, coin + men - cooks));
        for (String none : new String[] {"duke 0 0 0;town 99 100;fear 100 0 0;", "duke 0 999 0;town 99 0;fear 100 0 0;",
            "duke 0 999 0;town 99 100;fear 0 0 0;"}) {
            sum("none: " + none, after(1, none, ""), 0, 0);
        }
    }

    private static void taxesAtMost() {
        String rest = "enemy 0 0 0;fear 100 0 0;";
        sum("9,900 by 10,000", after(1, "duke 0 99 0;town 99 1;" + rest, ""), 0, 0);
        sum("9,999 by 10,000", after(1, "duke 0 101 0;town 99 99;enemy 0 0 0;fear 1 0 0;", ""), 0, 0);
        sum("10,000 by 10,000", after(1, "duke 0 100 0;town 99 1;" + rest, ""), 0, 1);
        sum("19,900 by 10,000", after(1, "duke 0 199 0;town 99 1;" + rest, ""), 0, 1);
        sum("just what it has", after(1, "duke 0 100 0;town 50 50;" + rest, ""), 2, 0);
        HiredEnemy poor = after(1, "duke 0 100 0;town 49 50;" + rest, "");
        sum("what it has", poor, 0, 49);
        sum("it has none then", poor, 2, 0);
        poor.months(1);
        sum("nothing is left to take", poor, 0, 49);
    }

    private static void pay() {
        HiredEnemy x = after(1, STILL, "pay 500;");
        sum("all that he has", x, 0, 0);
        sum("the enemy has it", x, 1, 500);
        sum("no DEFAULT", x, 8, 0);
        HiredEnemy taxed = after(1, "duke 499 1 0;enemy 0 0 0;town 1 100;fear 100 0 0;mason 0;", "pay 500;");
        sum("with the TAX of one man", taxed, 1, 500);
        HiredEnemy first = after(1, "duke 0 100 0;enemy 0 0 0;town 60 60;fear 100 0 0;", "pay 60;");
        sum("TAXES come first", first, 1, 60);
        HiredEnemy cooks = after(1, "duke 60 100 1;enemy 0 0 1;town 0 0;fear 0 0 0;", "pay 55;");
        sum("COOKS come later", cooks, 2, 5);
        HiredEnemy free = after(1, "duke 0 0 0;enemy 0 0 0;town 0 0;", "pay 0;");
        sum("nothing can be paid without coin", free, 8, 0);
    }

    private static void unpaid() {
        HiredEnemy x = after(1, STILL, "pay 501;");
        sum("the duke's", x, 0, 500);
        sum("the enemy's", x, 1, 0);
        Check.due("it ended", () -> x.told(3), -1);
        Check.due("no MONTH of it", () -> x.told(4), -1);
        HiredEnemy later = after(3, STILL, "pay 200;");
        sum("paid twice", later, 1, 400);
        Check.due("ended in the third", () -> later.told(3), -1);
        Check.due("what was in force", () -> later.sign(0), -1);
        later.months(1);
        sum("SIGNED again, in DEFAULT again", later, 8, 2);
    }

    private static void inDefault() {
        HiredEnemy x = after(1, "wall 1 1;duke 9 0 0;enemy 0 0 0;town 0 0;fear 50 10 3;near 0 20;", "pay 10;corks 9;near 0;bonus 2;breach 0 0;");
        sum("DEFAULTS", x, 8, 1);
        sum("no corks", x, 9, 0);
        Check.due("none led", () -> x.corks(0, 0), 0);
        sum("no breaches", x, 6, 0);
        sum("not MISSED", x, 7, 0);
        sum("no bonus", x, 1, 0);
        sum("FEAR: (e) alone", x, 5, 47);
        x.months(5);
        sum("once", x, 8, 1);
        HiredEnemy winter = after(1, STILL, "pay 1;winter 501;");
        sum("by what is due in winter", winter, 8, 1);
    }

    private static void atTheWallTold() {
        String walls = "wall 3 0;wall 9 0;wall 2 0;";
        HiredEnemy x = after(2, walls + STILL, "corks 7;breach 1 0;breach 0 1;");
        Check.due("MONTH 0", () -> x.corks(0, 0) * 100 + x.corks(0, 1) * 10 + x.corks(0, 2), 70);
        Check.due("WALL 1", () -> x.wall(1, 1), 2);
        Check.due("MONTH 1, behind its fall too", () -> x.corks(1, 0) * 100 + x.corks(1, 1) * 10 + x.corks(1, 2), 700);
        Check.due("WALL 0 fell twice", () -> x.wall(0, 3) * 10 + x.wall(0, 1), 22);
        HiredEnemy last = after(36, "wall 3 0;wall 99 0;" + STILL, "corks 1;breach 1 35;");
        Check.due("MONTH 35", () -> last.corks(35, 1), 1);
        Check.due("MONTH 34", () -> last.corks(34, 1), 0);
    }

    private static void atTheLeast() {
        HiredEnemy x = after(1, "wall 5 0;wall 4 0;wall 4 0;wall 6 0;" + STILL, "corks 9;");
        // 4 at WALL 1, which is full again and the first of the least again: 4 more, and 1.
        Check.due("the first of the least", () -> x.corks(0, 1), 9);
        Check.due("it fell twice", () -> x.wall(1, 3), 2);
        HiredEnemy last = after(1, "wall 9 0;wall 9 0;wall 9 0;wall 9 0;wall 9 0;wall 8 0;" + STILL, "corks 3;");
        Check.due("the last", () -> last.corks(0, 5), 3);
        HiredEnemy moves = after(2, "wall 5 0;wall 9 0;" + STILL, "corks 6;breach 1 0;");
        // WALL 1 has 3 left, behind MONTH 0.
        Check.due("by what is left, not by S", () -> moves.corks(1, 1), 3);
        Check.due("then by the next", () -> moves.corks(1, 0), 3);
        HiredEnemy same = after(1, "wall 7 0;wall 7 0;" + STILL, "corks 1;");
        Check.due("of two the first", () -> same.corks(0, 0) * 10 + same.corks(0, 1), 10);
    }

    private static void takes() {
        for (int near = 0; near <= 9; near++) {
            for (int corks = 0; corks <= 9; corks++) {
                HiredEnemy x = after(2, "wall 99 0;" + STILL, "corks " + corks + ";near " + near + ";");
                int each = corks + (near <= 4 ? corks / 2 : 0);
                Check.due("near " + near + ", corks " + corks, () -> x.wall(0, 1), 99 - 2 * each);
            }
        }
        HiredEnemy x = after(1, "wall 2 0;wall 3 0;" + STILL, "corks 4;near 4;");
        // 1, 2: WALL 0 falls; 1, 2: it falls again.
        Check.due("the 2nd, 4th", () -> x.wall(0, 3), 2);
        HiredEnemy full = after(1, "wall 4 0;" + STILL, "corks 4;near 4;");
        // 1, 2, 1: it falls; the 4th takes 2 of the full one.
        Check.due("of the MONTH's, not of those since it fell", () -> full.wall(0, 1), 2);
        HiredEnemy one = after(1, "wall 1 0;wall 5 0;" + STILL, "corks 4;near 0;");
        Check.due("each fells it, by 1 or by 2", () -> one.wall(0, 3), 4);
    }

    private static void breached() {
        HiredEnemy one = after(1, "wall 6 0;" + STILL, "corks 5;");
        sum("1 left", one, 6, 0);
        Check.due("1 left of it", () -> one.wall(0, 1), 1);
        one.months(1);
        sum("0 left", one, 6, 1);
        Check.due("of it", () -> one.wall(0, 3), 1);
        HiredEnemy below = after(1, "wall 4 0;" + STILL, "corks 3;near 4;");
        sum("1, 2, 1: at 0", below, 6, 1);
        HiredEnemy beyond = after(1, "wall 2 0;" + STILL, "corks 2;near 4;");
        sum("1, 2: below 0", beyond, 6, 1);
        Check.due("full, none less", () -> beyond.wall(0, 1), 2);
        HiredEnemy most = after(36, "wall 1 0;" + STILL, "corks 99;");
        sum("the most", most, 6, 36 * 99);
        Check.due("the most of it", () -> most.wall(0, 3), 36 * 99);
    }

    private static void fearOfBreaches() {
        String walls = "wall 1 0;duke 0 0 0;enemy 0 0 0;town 0 0;near 9 0;";
        sum("B each", after(1, walls + "fear 1 33 0;", "corks 2;"), 5, 67);
        sum("99", after(1, walls + "fear 0 33 0;", "corks 3;"), 5, 99);
        sum("just 100", after(1, walls + "fear 1 33 0;", "corks 3;"), 5, 100);
        sum("not 101", after(1, walls + "fear 2 33 0;", "corks 3;"), 5, 100);
        sum("cut at 100 each time, then (e)", after(1, walls + "fear 100 50 7;", "corks 9;"), 5, 93);
    }

    private static void bonus() {
        String rest = "wall 1 0;enemy 0 0 0;town 0 0;fear 0 0 0;";
        HiredEnemy just = after(1, "duke 40 0 0;" + rest, "corks 2;bonus 20;");
        sum("just what he has", just, 0, 0);
        sum("the enemy has it", just, 1, 40);
        HiredEnemy less = after(1, "duke 39 0 0;" + rest, "corks 3;bonus 20;");
        sum("what he has", less, 1, 39);
        sum("no less than none", less, 0, 0);
        sum("is no DEFAULT", less, 8, 0);
        Check.due("in force still", () -> less.told(3), 0);
        HiredEnemy paid = after(1, "duke 40 0 0;" + rest, "pay 30;corks 1;bonus 20;");
        sum("behind PAY", paid, 1, 40);
        HiredEnemy ahead = after(1, "duke 10 0 0;wall 2 1;enemy 0 0 0;town 0 0;fear 0 0 0;mason 9;", "corks 3;bonus 10;");
        sum("ahead of (f)", ahead, 1, 10);
        Check.due("nothing is left for (f)", () -> ahead.wall(0, 1), 1);
    }

    private static void fullAgain() {
        HiredEnemy x = after(1, "wall 5 0;duke 0 0 0;enemy 0 0 0;town 0 0;fear 0 0 0;", "corks 5;");
        Check.due("full, for nothing", () -> x.wall(0, 1), 5);
        x.months(1);
        Check.due("anew", () -> x.wall(0, 1), 5);
        Check.due("breaches", () -> x.wall(0, 3), 2);
        HiredEnemy once = after(1, "wall 5 0;" + STILL, "corks 7;");
        Check.due("at once: the 6th and 7th hit the full one", () -> once.wall(0, 1), 3);
    }

    private static void missed() {
        sum("1 left", after(1, "wall 4 0;" + STILL, "corks 3;breach 0 0;"), 7, 1);
        sum("fell with the last cork", after(1, "wall 4 0;" + STILL, "corks 4;breach 0 0;"), 7, 0);
        sum("fell, and stands again", after(1, "wall 4 0;" + STILL, "corks 6;breach 0 0;"), 7, 0);
        sum("without corks", after(1, "wall 1 0;" + STILL, "breach 0 0;"), 7, 1);
        HiredEnemy x = after(2, "wall 3 0;wall 9 0;" + STILL, "corks 3;breach 0 0;breach 0 1;breach 1 2;");
        sum("fell both times", x, 7, 0);
        x.months(1);
        sum("another", x, 7, 1);
        x.months(1);
        sum("none told: none MISSED", x, 7, 1);
        HiredEnemy ended = after(3, "wall 9 0;" + STILL, "corks 1;breach 0 2;till 2;");
        sum("told for behind its end", ended, 7, 0);
        HiredEnemy before = after(2, "wall 4 0;" + STILL, "corks 4;breach 0 1;");
        sum("fell in both", before, 7, 0);
        HiredEnemy early = Check.with("wall 2 0;" + STILL, "corks 2;", "corks 1;breach 0 0;");
        early.sign(0);
        early.months(1);
        early.sign(1);
        early.months(1);
        sum("its fall in an earlier MONTH does not count", early, 7, 1);
        HiredEnemy second = Check.with("wall 9 0;wall 2 0;wall 2 0;" + STILL, "corks 2;breach 1 0;breach 2 1;", "corks 1;breach 1 0;breach 2 1;");
        second.sign(0);
        second.months(2);
        sum("WALLS 1 and 2 fell", second, 7, 0);
        second.sign(1);
        second.months(1);
        sum("WALL 1 did not", second, 7, 1);
        second.months(1);
        sum("nor did WALL 2", second, 7, 2);
        second.sign(-1);
        second.months(1);
        sum("none is told without a CONTRACT", second, 7, 2);
    }

    private static void fearOfNearness() {
        String rest = "duke 0 0 0;enemy 0 0 0;town 0 0;near 2 20;";
        sum("99", after(1, rest + "fear 79 0 0;", "near 2;"), 5, 99);
        sum("100", after(1, rest + "fear 80 0 0;", "near 2;"), 5, 100);
        sum("not 101", after(1, rest + "fear 81 0 0;", "near 2;"), 5, 100);
        sum("cut ahead of (e)", after(1, rest + "fear 100 0 3;", "near 2;"), 5, 97);
        sum("each MONTH", after(3, rest + "fear 0 0 1;", "near 2;"), 5, 57);
        sum("without WALLS and corks, as told without", after(1, rest + "fear 0 0 0;", "near 3;"), 5, 6);
    }

    private static void fearLess() {
        String rest = "duke 0 0 0;enemy 0 0 0;town 0 0;near 2 20;";
        sum("1", after(1, rest + "fear 8 0 7;", ""), 5, 1);
        sum("0", after(1, rest + "fear 7 0 7;", ""), 5, 0);
        sum("not -1", after(1, rest + "fear 6 0 7;", ""), 5, 0);
        sum("0 stays", after(5, rest + "fear 0 0 50;", ""), 5, 0);
        sum("behind (d)", after(1, rest + "fear 0 0 7;", "near 2;"), 5, 13);
        sum("not a bit", after(5, rest + "fear 9 0 0;", ""), 5, 9);
    }

    private static void mended() {
        Check.due("by H", () -> after(1, "wall 9 2;" + STILL, "corks 5;").wall(0, 1), 6);
        Check.due("just to S", () -> after(1, "wall 9 5;" + STILL, "corks 5;").wall(0, 1), 9);
        HiredEnemy more = after(1, "wall 9 6;" + STILL, "corks 5;");
        Check.due("not beyond S", () -> more.wall(0, 1), 9);
        sum("what is not mended is not paid", more, 0, 495);
        Check.due("H of 0", () -> after(1, "wall 9 0;" + STILL, "corks 5;").wall(0, 1), 4);
        HiredEnemy full = after(9, "wall 9 50;" + STILL, "");
        sum("a full one costs nothing", full, 0, 500);
        HiredEnemy two = after(1, "wall 9 1;wall 8 1;wall 7 1;" + STILL, "corks 9;");
        // WALL 2 falls with the 7th and is hit by 2 more.
        Check.due("each", () -> two.wall(0, 1) * 100 + two.wall(1, 1) * 10 + two.wall(2, 1), 986);
    }

    private static void canPay() {
        String rest = "enemy 0 0 0;town 3 0;fear 0 0 0;mason 2;wall 9 5;";
        HiredEnemy ten = after(1, "duke 10 0 0;" + rest, "corks 6;");
        Check.due("10 are enough for 5", () -> ten.wall(0, 1), 8);
        sum("the town has it", ten, 2, 13);
        HiredEnemy nine = after(1, "duke 9 0 0;" + rest, "corks 6;");
        Check.due("9 are enough for 4", () -> nine.wall(0, 1), 7);
        sum("1 is left", nine, 0, 1);
        HiredEnemy one = after(1, "duke 1 0 0;" + rest, "corks 6;");
        Check.due("1 is enough for none", () -> one.wall(0, 1), 3);
        sum("it is left", one, 0, 1);
        HiredEnemy cheap = after(1, "duke 3 0 0;" + rest + "mason 1;", "corks 6;");
        Check.due("3 are enough for 3 at 1 each", () -> cheap.wall(0, 1), 6);
        HiredEnemy none = after(1, "duke 0 0 0;" + rest, "corks 6;");
        Check.due("0", () -> none.wall(0, 1), 3);
        HiredEnemy free = after(1, "duke 0 0 0;" + rest + "mason 0;", "corks 6;");
        Check.due("for nothing, without coin", () -> free.wall(0, 1), 8);
        HiredEnemy cooks = after(1, "duke 10 100 1;enemy 0 0 1;town 0 0;fear 0 0 0;mason 2;wall 9 5;", "corks 6;");
        Check.due("ahead of COOKS", () -> cooks.wall(0, 1), 8);
        HiredEnemy pay = after(1, "duke 10 0 0;" + rest, "pay 4;corks 6;");
        Check.due("behind PAY", () -> pay.wall(0, 1), 6);
    }

    private static void wallByWall() {
        HiredEnemy x = after(1, "wall 9 9;wall 9 9;wall 9 9;duke 24 0 0;enemy 0 0 0;town 0 0;fear 0 0 0;mason 9;", "corks 1;breach 0 0;");
        Check.due("9 each", () -> x.sums(0) * 10 + x.sums(2), 159);
        HiredEnemy y = Check.with("wall 20 3;wall 20 9;wall 20 9;duke 10 0 0;enemy 0 0 0;town 0 0;fear 0 0 0;mason 0;",
            "corks 10;breach 2 0;breach 1 1;breach 0 2;");
        y.sign(0);
        y.months(3);
        Check.due("for nothing", () -> y.wall(0, 1) * 10000 + y.wall(1, 1) * 100 + y.wall(2, 1), 132020);
        HiredEnemy z = Check.with("wall 20 2;wall 20 4;wall 20 4;duke 12 0 0;enemy 0 0 0;town 0 0;fear 0 0 0;mason 2;",
            "corks 10;breach 0 0;", "corks 19;breach 1 0;");
        z.sign(0);
        z.months(1);
        // 8 are left, 12 of WALL 0; 2 more of it for 4, and 2 of WALL 1 for 4.
        z.sign(1);
        z.months(1);
        Check.due("the first ones first", () -> z.wall(0, 1) * 100 + z.wall(1, 1), 1403);
        sum("all is paid", z, 2, 12);
    }

    private static void cooks() {
        HiredEnemy x = after(1, "duke 500 120 4;enemy 300 80 4;town 10 0;fear 0 0 0;", "");
        sum("the duke: 4 for each of 12", x, 0, 500 - 48);
        sum("the enemy: 4 for each of 8", x, 1, 300 - 32);
        sum("the town has it", x, 2, 10 + 80);
        HiredEnemy most = after(1, "duke 9999 999 9;enemy 9999 999 9;town 9999 0;", "");
        sum("the most", most, 2, 9999 + 2 * 891);
        HiredEnemy none = after(1, "duke 500 999 0;enemy 300 999 0;town 10 0;", "");
        sum("without COOKS", none, 2, 10);
        HiredEnemy ahead = after(1, "duke 500 100 0;enemy 500 95 9;town 0 0;", "");
        sum("ahead of DESERTERS", ahead, 1, 500 - 81);
    }

    private static void cooksAtMost() {
        HiredEnemy nine = after(1, "duke 500 9 9;enemy 300 9 9;town 10 0;", "");
        sum("9 men: none", nine, 2, 10);
        HiredEnemy nineteen = after(1, "duke 500 19 9;enemy 300 10 9;town 10 0;", "");
        sum("19 men, 10 men", nineteen, 2, 10 + 9 + 9);
        HiredEnemy just = after(1, "duke 18 20 9;enemy 27 30 9;town 0 0;", "");
        sum("just what they have", just, 2, 45);
        HiredEnemy less = after(1, "duke 17 20 9;enemy 26 30 9;town 0 0;", "");
        sum("what they have", less, 2, 43);
        sum("none is left to the duke", less, 0, 0);
        sum("none is left to the enemy", less, 1, 0);
        less.months(1);
        sum("nor does it become less", less, 2, 43);
    }

    private static void deserters() {
        HiredEnemy x = after(1, "duke 0 100 3;enemy 0 50 8;", "");
        sum("5 of 100 of the duke's", x, 3, 95);
        sum("come to the enemy", x, 4, 55);
        HiredEnemy y = after(1, "duke 0 50 8;enemy 0 100 3;", "");
        sum("5 of 100 of the enemy's", y, 4, 95);
        sum("come to the duke", y, 3, 55);
        sum("19 men, 5 lesser: cut", after(1, "duke 0 19 0;enemy 0 0 5;", ""), 3, 19);
        sum("20 men, 5 lesser", after(1, "duke 0 20 0;enemy 0 0 5;", ""), 3, 19);
        sum("39 men, 5 lesser: cut", after(1, "duke 0 39 0;enemy 0 0 5;", ""), 3, 38);
        sum("none, if COOKS are the same", after(9, "duke 0 999 5;enemy 0 999 5;", ""), 3, 999);
        sum("none of none", after(1, "duke 0 0 0;enemy 0 9 9;", ""), 4, 9);
        HiredEnemy most = Check.with("duke 0 999 0;enemy 0 999 9;");
        most.months(120);
        Check.due("none is lost", () -> most.sums(3) + most.sums(4), 1998);
        sum("so few that none goes", most, 3, 11);
    }

    private static void ends() {
        HiredEnemy one = Check.with(STILL, "pay 1;till 1;");
        one.sign(0);
        one.months(1);
        sum("its one MONTH is paid", one, 1, 1);
        Check.due("ended", () -> one.told(3), -1);
        Check.due("what was in force", () -> one.sign(-1), -1);
        HiredEnemy most = Check.with(STILL, "pay 1;till 36;");
        most.sign(0);
        most.months(35);
        Check.due("its last MONTH", () -> most.told(4), 35);
        most.months(1);
        Check.due("behind it", () -> most.told(4), -1);
        most.months(1);
        sum("36 are paid", most, 1, 36);
        HiredEnemy again = Check.with(STILL, "pay 1;till 2;");
        again.sign(0);
        again.months(1);
        again.sign(0);
        again.months(1);
        Check.due("SIGNED again, it lasts anew", () -> again.told(4), 1);
    }

    private static void coinAddsUp() {
        HiredEnemy x = Check.with("wall 3 2;wall 4 9;duke 700 130 2;enemy 300 170 7;town 2000 90;fear 60 30 9;mason 3;",
            "pay 90;winter 120;corks 30;bonus 41;near 3;", "pay 999;");
        for (int i = 0; i < 40; i++) {
            x.sign(i % 3 == 2 ? 1 : 0);
            x.months(3);
            Check.due("duke's, enemy's, town's", () -> x.sums(0) + x.sums(1) + x.sums(2), 3000);
            Check.due("men", () -> x.sums(3) + x.sums(4), 300);
        }
    }

    private static void led() {
        HiredEnemy x = Check.with("wall 3 0;wall 4 0;wall 9 0;" + STILL, "corks 17;", "corks 99;breach 2 0;breach 1 1;till 2;");
        int shot = 0;
        for (int month = 0; month < 120; month++) {
            x.sign(month % 4 - 1 > 1 ? -1 : month % 4 - 1);
            x.months(1);
            int sum = 0;
            for (int m = 0; m <= month; m++) {
                sum += x.corks(m, 0) + x.corks(m, 1) + x.corks(m, 2);
            }
            shot += month % 4 == 1 ? 17 : month % 4 == 2 ? 99 : 0;
            Check.same("all corks, MONTH " + month, sum, shot);
            Check.due("shot, MONTH " + month, () -> x.sums(9), shot);
        }
        HiredEnemy bare = after(3, STILL, "corks 9;near 0;bonus 5;");
        sum("without WALLS none can be led, so none is shot", bare, 9, 0);
        sum("nor is anything breached", bare, 6, 0);
        Check.due("MONTH 118, WALL 2", () -> x.corks(118, 2), 99);
        Check.due("MONTH 117, WALL 0", () -> x.corks(117, 0), 17);
        Check.due("MONTH 116", () -> x.corks(116, 0) + x.corks(116, 1) + x.corks(116, 2), 0);
    }
}
