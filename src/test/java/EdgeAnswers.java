/** Sentences of promises 6 to 14: what is told of a SIEGE, signing, MONTHS, undoing, sums, corks. */
final class EdgeAnswers {
    private EdgeAnswers() {
    }

    static void run() {
        Sentence.says("0 WALLS, 1 CONTRACTS, 2 the MONTH, 3 the CONTRACT in force (NONE), 4 its MONTH (NONE).", EdgeAnswers::told);
        Sentence.says("IllegalArgumentException: another what (so below).", EdgeAnswers::anotherWhat);
        Sentence.says("Of a WALL: 0 S, 1 STRENGTH left, 2 H, 3 breaches of it.", EdgeAnswers::wall);
        Sentence.says("IndexOutOfBoundsException: no such WALL (so below).", EdgeAnswers::noSuchWall);
        Sentence.says("Of a CONTRACT: 0 pay, 1 winter, 2 near, 3 corks, 4 bonus, 5 till, 6 breaches told.", EdgeAnswers::rule);
        Sentence.says("NoSuchElementException: no such CONTRACT (so below).", EdgeAnswers::noSuchContract);
        Sentence.says("What the enemy wants a MONTH for NEARNESS R (0 to 9) and corks (0 to 99).", EdgeAnswers::wants);
        Sentence.says("A CONTRACT is SIGNED (NONE: what is in force ends): what was in force.", EdgeAnswers::sign);
        Sentence.says("NoSuchElementException: no such CONTRACT, and not NONE.", EdgeAnswers::signRefuses);
        Sentence.says("So many MONTHS (1 to 120) go by: how many did.", EdgeAnswers::months);
        Sentence.says("So many MONTHS (1 to 120) are undone: how many (all as it was as that MONTH began, what was in force, too).",
            EdgeAnswers::undo);
        Sentence.says("0 the duke's coin, 1 the enemy's, 2 the town's, 3 the duke's men, 4 the enemy's, 5 FEAR, 6 breaches, 7 MISSED, "
            + "8 DEFAULTS, 9 corks shot.", EdgeAnswers::sums);
        Sentence.says("How many corks were shot at a WALL in a MONTH (0, if it is not gone).", EdgeAnswers::corks);
    }

    private static HiredEnemy some() {
        return Check.with("wall 8 1;wall 5 2;duke 700 130 2;enemy 300 170 7;town 2000 90;fear 60 3 9;mason 3;",
            "pay 11;winter 12;near 3;corks 9;bonus 7;till 30;breach 0 0;breach 1 1;breach 1 35;", "pay 1;till 5;");
    }

    private static void told() {
        HiredEnemy x = some();
        Check.due("WALLS", () -> x.told(0), 2);
        Check.due("CONTRACTS", () -> x.told(1), 2);
        Check.due("the MONTH", () -> x.told(2), 0);
        Check.due("none in force", () -> x.told(3), -1);
        Check.due("none's MONTH", () -> x.told(4), -1);
        x.months(3);
        Check.due("MONTH 3", () -> x.told(2), 3);
        Check.due("none's MONTH in MONTH 3", () -> x.told(4), -1);
        x.sign(1);
        Check.due("in force", () -> x.told(3), 1);
        Check.due("its MONTH 0", () -> x.told(4), 0);
        x.months(4);
        Check.due("its MONTH 4", () -> x.told(4), 4);
        x.months(1);
        Check.due("ended", () -> x.told(3) * 10 + x.told(4), -11);
        x.sign(0);
        Check.due("CONTRACT 0", () -> x.told(3), 0);
        x.sign(-1);
        Check.due("NONE", () -> x.told(3) * 10 + x.told(4), -11);
    }

    private static void anotherWhat() {
        HiredEnemy x = some();
        x.sign(0);
        x.months(2);
        Check.outside("told", x, 0, 4, what -> x.told((int) what));
        Check.outside("wall", x, 0, 3, what -> x.wall(0, (int) what));
        Check.outside("rule", x, 0, 6, what -> x.rule(0, (int) what));
        Check.outside("sums", x, 0, 9, what -> x.sums((int) what));
        Check.outside("would", x, 0, 9, what -> x.would(0, 1, (int) what));
        Check.outside("best", x, 0, 1, what -> x.best(1, (int) what));
        Check.outside("offer", x, 0, 3, what -> x.offer(1, (int) what));
        Check.outside("stop", x, 0, 1, what -> x.stop(1, (int) what));
        Check.outside("believed", x, 0, 1, what -> x.believed((int) what));
        Check.outside("earnest", x, 0, 1, what -> x.earnest(1, 1, (int) what));
        Check.inside("told", 0, 4, what -> x.told((int) what));
        Check.inside("wall", 0, 3, what -> x.wall(0, (int) what));
        Check.inside("rule", 0, 6, what -> x.rule(0, (int) what));
        Check.inside("sums", 0, 9, what -> x.sums((int) what));
        Check.inside("would", 0, 9, what -> x.would(0, 1, (int) what));
        HiredEnemy bare = new HiredEnemy();
        Check.outside("told, without WALLS", bare, 0, 4, what -> bare.told((int) what));
    }

    private static void wall() {
        HiredEnemy x = Check.with("wall 8 1;wall 5 2;duke 900 0 0;", "corks 9;near 9;breach 1 0;breach 1 1;");
        int[][] before = {{8, 8, 1, 0}, {5, 5, 2, 0}};
        // 9 corks: it falls with the 5th, 4 more leave 1, 2 are mended.
        int[][] behind = {{8, 8, 1, 0}, {5, 3, 2, 1}};
        // It falls with the 3rd and the 8th, 1 more leaves 4, 1 is mended.
        int[][] later = {{8, 8, 1, 0}, {5, 5, 2, 3}};
        each(x, before);
        x.sign(0);
        x.months(1);
        each(x, behind);
        x.months(1);
        each(x, later);
        x.undo(2);
        each(x, before);
    }

    private static void each(HiredEnemy x, int[][] due) {
        for (int w = 0; w < due.length; w++) {
            for (int i = 0; i < 4; i++) {
                int wall = w;
                int what = i;
                Check.due("wall(" + w + ", " + i + ")", () -> x.wall(wall, what), due[w][i]);
            }
        }
    }

    private static void noSuchWall() {
        HiredEnemy x = some();
        x.sign(0);
        x.months(2);
        for (int w : new int[] {-1, 2, 6, Integer.MAX_VALUE, Integer.MIN_VALUE, 65536, -65536}) {
            Check.refused("wall " + w, x, "IndexOutOfBoundsException", () -> x.wall(w, 0));
            Check.refused("corks at " + w, x, "IndexOutOfBoundsException", () -> x.corks(0, w));
        }
        Check.refused("both are wrong: wall", x, "IndexOutOfBoundsException", () -> x.wall(2, 4));
        Check.refused("both are wrong: corks", x, "IndexOutOfBoundsException", () -> x.corks(120, 2));
        HiredEnemy bare = new HiredEnemy();
        Check.refused("without WALLS", bare, "IndexOutOfBoundsException", () -> bare.wall(0, 0));
        Check.refused("corks without WALLS", bare, "IndexOutOfBoundsException", () -> bare.corks(0, 0));
        HiredEnemy full = Check.with("wall 1 1;".repeat(6));
        Check.due("WALL 5", () -> full.wall(5, 0), 1);
        Check.refused("WALL 6", full, "IndexOutOfBoundsException", () -> full.wall(6, 0));
        Check.siege(full, "wall 2 2;");
        Check.refused("WALL 5 is none any more", full, "IndexOutOfBoundsException", () -> full.wall(5, 0));
    }

    private static void rule() {
        HiredEnemy x = some();
        int[][] due = {{11, 12, 3, 9, 7, 30, 3}, {1, 1, 9, 0, 0, 5, 0}};
        for (int c = 0; c < 2; c++) {
            for (int i = 0; i < 7; i++) {
                int contract = c;
                int what = i;
                Check.due("rule(" + c + ", " + i + ")", () -> x.rule(contract, what), due[c][i]);
            }
        }
    }

    private static void noSuchContract() {
        HiredEnemy x = some();
        for (int c : new int[] {-1, -2, 2, 6, Integer.MAX_VALUE, Integer.MIN_VALUE, 65536, -65536}) {
            Check.refused("rule of " + c, x, "NoSuchElementException", () -> x.rule(c, 0));
        }
        for (int c : new int[] {-2, 2, 6, Integer.MAX_VALUE, Integer.MIN_VALUE}) {
            Check.refused("would of " + c, x, "NoSuchElementException", () -> x.would(c, 1, 0));
        }
        Check.refused("both are wrong: rule", x, "NoSuchElementException", () -> x.rule(2, 7));
        Check.refused("all are wrong: would", x, "NoSuchElementException", () -> x.would(2, 0, 10));
        HiredEnemy bare = new HiredEnemy();
        Check.refused("none is told", bare, "NoSuchElementException", () -> bare.rule(0, 0));
        x.siege(0);
        Check.refused("not any more", x, "NoSuchElementException", () -> x.rule(0, 0));
        // offer() has a CONTRACT of its own, which is not to be seen.
        HiredEnemy six = Check.with("", "pay 1;", "pay 2;", "pay 3;", "pay 4;", "pay 5;", "pay 6;");
        six.offer(5, 0);
        Check.refused("nor is the one that is offered", six, "NoSuchElementException", () -> six.rule(6, 0));
        Check.refused("nor can it be SIGNED", six, "NoSuchElementException", () -> six.sign(6));
    }

    private static void wants() {
        HiredEnemy x = Check.with("cost 7 3;");
        for (int r = 0; r <= 9; r++) {
            for (int c = 0; c <= 99; c++) {
                int near = r;
                int corks = c;
                Check.due("wants(" + r + ", " + c + ")", () -> x.wants(near, corks), 7 + 3 * c + 7 * (9 - r));
            }
        }
        Check.outside("R", x, 0, 9, r -> x.wants((int) r, 0));
        Check.outside("corks", x, 0, 99, corks -> x.wants(0, (int) corks));
    }

    private static void sign() {
        HiredEnemy x = some();
        Check.due("none before", () -> x.sign(1), -1);
        Check.due("1 before", () -> x.sign(0), 1);
        Check.due("0 before", () -> x.sign(0), 0);
        Check.due("NONE: 0 ends", () -> x.sign(-1), 0);
        Check.due("none before NONE", () -> x.sign(-1), -1);
        Check.due("none is in force", () -> x.told(3), -1);
        HiredEnemy y = Check.with("duke 500 0 0;enemy 0 0 0;town 0 0;", "pay 7;", "pay 2;");
        y.sign(0);
        y.sign(1);
        y.months(1);
        Check.due("the latest is paid", () -> y.sums(1), 2);
        y.sign(-1);
        y.months(1);
        Check.due("none is paid", () -> y.sums(1), 2);
        String before = Check.state(y);
        y.sign(0);
        Check.same("signing changes nothing but what is in force", Check.state(y), before.replaceFirst("-1 -1 ", "0 0 "));
    }

    private static void signRefuses() {
        HiredEnemy x = some();
        x.sign(1);
        x.months(1);
        for (int c : new int[] {-2, 2, 6, 7, Integer.MAX_VALUE, Integer.MIN_VALUE, 65535, -65536}) {
            Check.refused("sign(" + c + ")", x, "NoSuchElementException", () -> x.sign(c));
        }
        Check.due("in force still", () -> x.told(3) * 10 + x.told(4), 11);
        Check.due("NONE is none of these", () -> x.sign(-1), 1);
    }

    private static void months() {
        HiredEnemy x = some();
        x.sign(0);
        Check.outside("n", x, 1, 120, n -> x.months((int) n));
        for (int n = 1; n <= 120; n++) {
            HiredEnemy y = some();
            int many = n;
            Check.due("months(" + n + ")", () -> y.months(many), n);
            Check.due("MONTH", () -> y.told(2), n);
        }
        HiredEnemy once = some();
        HiredEnemy oneByOne = some();
        once.sign(0);
        oneByOne.sign(0);
        once.months(50);
        for (int i = 0; i < 50; i++) {
            oneByOne.months(1);
        }
        Check.same("at once as one by one", Check.state(once), Check.state(oneByOne));
        Check.due("70 are left", () -> once.months(71), 70);
        Check.due("none is left", () -> once.months(1), 0);
        Check.outside("n, though none is left", once, 1, 120, n -> once.months((int) n));
    }

    private static void undo() {
        HiredEnemy x = some();
        String[] began = new String[120];
        for (int i = 0; i < 120; i++) {
            if (i % 7 == 0) {
                x.sign(i % 3 - 1);
            }
            began[i] = Check.state(x);
            x.months(1);
        }
        Check.outside("n", x, 1, 120, n -> x.undo((int) n));
        int at = 120;
        for (int n : new int[] {1, 1, 2, 30, 1, 5, 61, 18}) {
            Check.due("undo(" + n + ") at " + at, () -> x.undo(n), n);
            at -= n;
            Check.same("all as it was as MONTH " + at + " began", Check.state(x), began[at]);
        }
        Check.due("1 is left", () -> x.undo(2), 1);
        Check.same("all as it was at first", Check.state(x), began[0]);
        Check.due("none is left", () -> x.undo(120), 0);
        Check.same("all stays", Check.state(x), began[0]);
        HiredEnemy all = some();
        all.months(120);
        Check.due("all 120", () -> all.undo(120), 120);
        HiredEnemy signed = some();
        signed.sign(0);
        signed.months(1);
        signed.sign(1);
        Check.due("one is undone", () -> signed.undo(1), 1);
        Check.due("what was in force as it began", () -> signed.told(3) * 10 + signed.told(4), 0);
        signed.sign(-1);
        Check.due("none is left to undo", () -> signed.undo(1), 0);
        Check.due("so what was SIGNED since stays", () -> signed.told(3), -1);
        HiredEnemy broke = Check.with("duke 5 0 0;enemy 0 0 0;town 0 0;", "pay 6;");
        broke.sign(0);
        broke.months(1);
        Check.due("in DEFAULT", () -> broke.sums(8) * 10 + broke.told(3), 9);
        broke.undo(1);
        Check.due("no DEFAULT, in force again", () -> broke.sums(8) * 10 + broke.told(3), 0);
        HiredEnemy rest = some();
        rest.months(2);
        rest.seen(0);
        rest.offers(1, 0, 5);
        rest.image();
        rest.undo(1);
        Check.due("IMAGES, SIGNS, OFFERS are no MONTHS", () -> rest.count(0) * 100 + rest.count(2) * 10 + rest.most(), 115);
    }

    private static void sums() {
        HiredEnemy x = Check.with("wall 2 0;wall 9 0;duke 300 120 1;enemy 70 50 3;town 800 50;fear 40 10 5;mason 1;",
            "pay 100;corks 3;near 8;bonus 4;breach 0 0;breach 1 1;");
        int[] first = {300, 70, 800, 120, 50, 40, 0, 0, 0, 0};
        // TAXES 24; PAY 100; one breach, its bonus 4; COOKS 12 and 15; 2 of the duke's go over.
        int[] second = {300 + 24 - 100 - 4 - 12, 70 + 100 + 4 - 15, 800 - 24 + 12 + 15, 118, 52, 46, 1, 0, 0, 3};
        // TAXES 27; PAY 100; MISSED; COOKS 11 and 15; 2 go over.
        int[] third = {208 + 27 - 100 - 11, 159 + 100 - 15, 803 - 27 + 11 + 15, 116, 54, 42, 1, 1, 0, 6};
        sum(x, first);
        x.sign(0);
        x.months(1);
        sum(x, second);
        x.months(1);
        sum(x, third);
        x.months(2);
        Check.due("a DEFAULT at last", () -> x.sums(8), 1);
    }

    private static void sum(HiredEnemy x, int[] due) {
        for (int i = 0; i < 10; i++) {
            int what = i;
            Check.due("sums(" + i + ")", () -> x.sums(what), due[i]);
        }
    }

    private static void corks() {
        HiredEnemy x = Check.with("wall 8 1;wall 5 2;duke 900 0 0;", "corks 9;breach 1 0;breach 0 1;");
        x.sign(0);
        x.months(2);
        Check.due("MONTH 0", () -> x.corks(0, 0) * 10 + x.corks(0, 1), 9);
        Check.due("MONTH 1", () -> x.corks(1, 0) * 10 + x.corks(1, 1), 90);
        for (int m = 2; m < 120; m++) {
            int month = m;
            Check.due("not gone: " + m, () -> x.corks(month, 0) + x.corks(month, 1), 0);
        }
        Check.outside("month", x, 0, 119, month -> x.corks((int) month, 0));
        x.undo(1);
        Check.due("not gone any more", () -> x.corks(1, 0) + x.corks(1, 1), 0);
        x.sign(-1);
        x.months(1);
        Check.due("gone, without corks", () -> x.corks(1, 0) + x.corks(1, 1), 0);
        x.undo(2);
        Check.due("none is gone", () -> x.corks(0, 0) + x.corks(0, 1), 0);
        x.months(119);
        x.sign(0);
        x.months(1);
        Check.due("the last MONTH", () -> x.corks(119, 1), 9);
        Check.outside("month, at the end", x, 0, 119, month -> x.corks((int) month, 0));
        x.siege(0);
        Check.siege(x, "wall 1 1;");
        Check.due("none of the SIEGE before", () -> x.corks(119, 0) + x.corks(0, 0), 0);
    }
}
