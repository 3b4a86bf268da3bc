/** Sentences of the Terms and of promises 20 to 30: a REAL one, IN EARNEST, TWO DUKES. */
final class EdgeBelief {
    private EdgeBelief() {
    }

    static void run() {
        Sentence.says("A REAL one: odds A to B at first (1 to 99 each).", EdgeBelief::odds);
        Sentence.says("SIGNS (4 kinds): in how many of 16 each is seen, if he is real, if he is hired (1 to 16; as told when it is seen).",
            EdgeBelief::signs);
        Sentence.says("A SPY tells yes or no; he is right in r of 16 (1 to 15).", EdgeBelief::spies);
        Sentence.says("ODDS behind all that was seen: real to hired, in least terms;", EdgeBelief::leastTerms);
        Sentence.says("12 things at most.", EdgeBelief::twelve);
        Sentence.says("IN EARNEST: a men of the enemy, d of the duke, by tens (0 to 6 each),", EdgeBelief::men);
        Sentence.says("are put at the first WALLS (3 at most):", EdgeBelief::firstWalls);
        Sentence.says("a WALL falls, if the enemy has more there than the duke has, and S by 25 (cut).", EdgeBelief::falls);
        Sentence.says("WORTH of WALLS is S.", EdgeBelief::worth);
        Sentence.says("SAFE: the least worth that falls, if the duke puts his so that it is least at the worst;", EdgeBelief::safe);
        Sentence.says("SURE: the most that the enemy makes fall for certain, whatever the duke does.", EdgeBelief::sure);
        Sentence.says("FOR SHOW is one of these WALLS, if SAFE is the same with the others of these alone.", EdgeBelief::forShow);
        Sentence.says("TWO DUKES offer coin MONTH by MONTH (12 at most);", EdgeBelief::twelveMonths);
        Sentence.says("the enemy serves one, or none;", EdgeBelief::oneOrNone);
        Sentence.says("never one and, in the next MONTH, the other (between both he serves none for a MONTH).", EdgeBelief::neverTheOther);
        Sentence.says("MOST coin;", EdgeBelief::mostCoin);
        Sentence.says("the first way (MONTH by MONTH: 0 none, 1, 2).", EdgeBelief::firstWay);
        Sentence.says("Odds at first (A to B); all that was seen is forgotten.", EdgeBelief::forgotten);
        Sentence.says("Of a kind of SIGNS (0 to 3): in how many of 16, if he is real, hired (8, 8 at first).", EdgeBelief::kinds);
        Sentence.says("A SIGN is seen: how many things there are;", EdgeBelief::seen);
        Sentence.says("-1: there are 12.", EdgeBelief::thereAreTwelve);
        Sentence.says("A SPY tells that he is real, or not; he is right in r of 16 (1 to 15): likewise.", EdgeBelief::spy);
        Sentence.says("ODDS: 0 real, 1 hired.", EdgeBelief::believed);
        Sentence.says("SAFE (what 0), SURE (1).", EdgeBelief::earnest);
        Sentence.says("IllegalArgumentException: a, d (0 to 6), what.", EdgeBelief::earnestRefuses);
        Sentence.says("How the duke puts his men for SAFE, as digits to the base 10, the first WALL's the highest (the first such by digits).",
            EdgeBelief::stands);
        Sentence.says("FOR SHOW: WALLS, as bits.", EdgeBelief::show);
        Sentence.says("A duke (1, 2) offers coin (0 to 999) for a MONTH (0 to 11): what he offered (0 at first).", EdgeBelief::offers);
        Sentence.says("MOST coin.", EdgeBelief::most);
        Sentence.says("Whom he serves in a MONTH by the first way: 0, 1, 2.", EdgeBelief::serves);
    }

    private static void believed(String what, HiredEnemy x, long real, long hired) {
        Check.due("real: " + what, () -> x.believed(0), real);
        Check.due("hired: " + what, () -> x.believed(1), hired);
    }

    private static long oddsOf(HiredEnemy x, long a, long b) {
        x.odds((int) a, (int) b);
        return 0;
    }

    private static long kindOf(HiredEnemy x, long kind, long real, long hired) {
        x.kind((int) kind, (int) real, (int) hired);
        return 0;
    }

    private static void odds() {
        HiredEnemy x = new HiredEnemy();
        believed("at first 1 to 1", x, 1, 1);
        x.odds(5, 7);
        x.seen(0);
        Check.outside("A", x, 1, 99, n -> oddsOf(x, n, 1));
        Check.outside("B", x, 1, 99, n -> oddsOf(x, 1, n));
        believed("refused ones leave all", x, 5, 7);
        Check.due("what was seen, too", () -> x.count(2), 1);
        for (int n = 1; n <= 99; n++) {
            x.odds(n, 1);
            believed("A " + n, x, n, 1);
            x.odds(1, n);
            believed("B " + n, x, 1, n);
        }
        x.odds(99, 98);
        believed("both", x, 99, 98);
    }

    private static void signs() {
        HiredEnemy x = new HiredEnemy();
        for (int kind = 0; kind < 4; kind++) {
            for (int n = 1; n <= 16; n++) {
                x.odds(1, 1);
                x.kind(kind, n, 16);
                x.seen(kind);
                int common = Integer.lowestOneBit(n);
                believed("real " + n, x, n / common, 16 / common);
                x.kind(kind, 16, n);
                believed("as told when it was seen", x, n / common, 16 / common);
                x.odds(1, 1);
                x.seen(kind);
                believed("hired " + n, x, 16 / common, n / common);
            }
            x.kind(kind, 1, 1);
        }
        Check.outside("kind", x, 0, 3, n -> kindOf(x, n, 1, 1));
        Check.outside("real", x, 1, 16, n -> kindOf(x, 0, n, 1));
        Check.outside("hired", x, 1, 16, n -> kindOf(x, 0, 1, n));
        Check.outside("seen", x, 0, 3, n -> x.seen((int) n));
    }

    private static void spies() {
        HiredEnemy x = new HiredEnemy();
        for (int r = 1; r <= 15; r++) {
            int common = Integer.lowestOneBit(r);
            x.odds(1, 1);
            x.spy(true, r);
            believed("yes, " + r, x, r / common, (16 - r) / common);
            x.odds(1, 1);
            x.spy(false, r);
            believed("no, " + r, x, (16 - r) / common, r / common);
        }
        Check.outside("r, yes", x, 1, 15, r -> x.spy(true, (int) r));
        Check.outside("r, no", x, 1, 15, r -> x.spy(false, (int) r));
    }

    private static void leastTerms() {
        HiredEnemy x = new HiredEnemy();
        x.odds(66, 99);
        believed("of odds at first", x, 2, 3);
        x.kind(1, 15, 10);
        x.seen(1);
        believed("2 times 3 to 3 times 2", x, 1, 1);
        x.odds(99, 99);
        believed("the same", x, 1, 1);
        x.odds(97, 89);
        for (int i = 0; i < 12; i++) {
            x.spy(i % 2 == 0, 15);
        }
        believed("there and back again", x, 97, 89);
    }

    private static void twelve() {
        HiredEnemy x = new HiredEnemy();
        x.odds(99, 1);
        x.kind(3, 16, 1);
        for (int i = 1; i <= 12; i++) {
            x.seen(3);
            believed("things: " + i, x, 99L << 4 * i, 1);
        }
        x.seen(3);
        x.spy(true, 15);
        believed("no 13th", x, 99L << 48, 1);
        x.odds(1, 99);
        x.kind(3, 1, 16);
        for (int i = 1; i <= 12; i++) {
            x.seen(3);
        }
        believed("the other way", x, 1, 99L << 48);
        x.odds(97, 89);
        x.kind(0, 15, 16);
        for (int i = 1; i <= 12; i++) {
            x.seen(0);
        }
        believed("long both", x, 97L * 15 * 15 * 15 * 15 * 15 * 15 * 15 * 15 * 15 * 15 * 15 * 15, 89L << 48);
    }

    private static void men() {
        HiredEnemy x = Check.with("wall 20 0;");
        for (int a = 0; a <= 6; a++) {
            for (int d = 0; d <= 6; d++) {
                int enemy = a;
                int duke = d;
                Check.due("a " + a + ", d " + d, () -> x.earnest(enemy, duke, 0), a > d ? 20 : 0);
                Check.due("sure, a " + a + ", d " + d, () -> x.earnest(enemy, duke, 1), a > d ? 20 : 0);
                Check.due("all of the duke's are put, d " + d, () -> x.stands(enemy, duke), d);
            }
        }
        Check.outside("a", x, 0, 6, a -> x.stands((int) a, 0));
        Check.outside("d", x, 0, 6, d -> x.stands(0, (int) d));
        HiredEnemy told = Check.with("wall 20 0;duke 0 0 0;enemy 0 0 0;");
        Check.due("whatever men there are", () -> told.earnest(6, 5, 0), 20);
    }

    private static void firstWalls() {
        HiredEnemy none = new HiredEnemy();
        Check.due("no WALL", () -> none.earnest(6, 0, 0) + none.earnest(6, 0, 1) + none.stands(6, 6) + none.show(6, 6), 0);
        HiredEnemy one = Check.with("wall 3 0;");
        Check.due("1 WALL", () -> one.earnest(6, 0, 0), 3);
        HiredEnemy two = Check.with("wall 3 0;wall 4 0;");
        Check.due("2 WALLS", () -> two.earnest(6, 0, 0), 7);
        HiredEnemy three = Check.with("wall 3 0;wall 4 0;wall 5 0;");
        Check.due("3 WALLS", () -> three.earnest(6, 0, 0), 12);
        HiredEnemy six = Check.with("wall 3 0;wall 4 0;wall 5 0;wall 6 0;wall 7 0;wall 8 0;");
        Check.due("of 6 WALLS 3", () -> six.earnest(6, 0, 0), 12);
        Check.due("sure", () -> six.earnest(6, 0, 1), 12);
        Check.due("three digits", () -> six.stands(1, 2), 11);
        Check.due("three bits", () -> six.show(0, 0), 7);
        Check.siege(six, "wall 9 0;");
        Check.due("those of the latest SIEGE", () -> six.earnest(6, 0, 0), 9);
        Check.due("bits of the latest SIEGE", () -> six.show(0, 0), 1);
        Check.due("one digit", () -> six.stands(1, 3), 3);
        six.siege(0);
        Check.due("no WALL any more: no digit", () -> six.stands(1, 3), 0);
        Check.due("no WALL any more", () -> six.earnest(6, 0, 0) + six.earnest(6, 0, 1) + six.show(1, 3), 0);
    }

    private static void falls() {
        for (int s : new int[] {1, 24, 25, 49, 50, 74, 75, 99}) {
            HiredEnemy x = Check.with("wall " + s + " 0;");
            for (int a = 0; a <= 6; a++) {
                for (int d = 0; d <= 6; d++) {
                    int enemy = a;
                    int duke = d;
                    Check.due("S " + s + ", a " + a + ", d " + d, () -> x.earnest(enemy, duke, 0), a > d + s / 25 ? s : 0);
                    Check.due("SURE: S " + s + ", a " + a + ", d " + d, () -> x.earnest(enemy, duke, 1), a > d + s / 25 ? s : 0);
                }
            }
        }
    }

    private static void worth() {
        HiredEnemy x = Check.with("wall 13 9;wall 24 0;", "corks 5;near 9;");
        Check.due("the dearer one of the two", () -> x.earnest(1, 0, 0), 24);
        Check.due("both", () -> x.earnest(2, 0, 0), 37);
        x.sign(0);
        x.months(1);
        Check.due("S, not what is left", () -> x.earnest(2, 0, 0), 37);
        HiredEnemy worn = Check.with("wall 30 0;", "corks 20;near 9;");
        worn.sign(0);
        worn.months(1);
        Check.due("S by 25 holds, though 10 are left", () -> worn.earnest(1, 0, 0), 0);
    }

    private static void safe() {
        HiredEnemy x = Check.with("wall 10 0;wall 11 0;wall 12 0;");
        Check.due("none is put: the dearest", () -> x.earnest(1, 0, 0), 12);
        Check.due("the dearest is held", () -> x.earnest(1, 1, 0), 11);
        Check.due("two are held", () -> x.earnest(1, 2, 0), 10);
        Check.due("all are held", () -> x.earnest(1, 3, 0), 0);
        Check.due("no enemy", () -> x.earnest(0, 0, 0), 0);
        Check.due("two come", () -> x.earnest(2, 2, 0), 12);
        Check.due("six come: two of the three fall, the cheaper ones", () -> x.earnest(6, 6, 0), 21);
    }

    private static void sure() {
        HiredEnemy x = Check.with("wall 10 0;wall 11 0;wall 12 0;");
        Check.due("one is met", () -> x.earnest(1, 1, 1), 0);
        Check.due("none meets one", () -> x.earnest(1, 0, 1), 12);
        Check.due("two at one can't be met by one", () -> x.earnest(2, 1, 1), 12);
        Check.due("three at three, one is met", () -> x.earnest(3, 1, 1), 21);
        Check.due("three at one can't be met by two", () -> x.earnest(3, 2, 1), 12);
        Check.due("as many as the enemy's can be met", () -> x.earnest(3, 3, 1), 0);
        Check.due("no enemy", () -> x.earnest(0, 0, 1), 0);
        Check.due("less than SAFE", () -> x.earnest(1, 1, 0) - x.earnest(1, 1, 1), 11);
    }

    private static void forShow() {
        HiredEnemy one = Check.with("wall 10 0;");
        Check.due("one WALL that falls", () -> one.show(1, 0), 0);
        Check.due("one WALL that holds: the same without any", () -> one.show(1, 1), 1);
        HiredEnemy three = Check.with("wall 10 0;wall 12 0;wall 12 0;");
        Check.due("each is, as another 12 falls", () -> three.show(1, 0), 7);
        HiredEnemy two = Check.with("wall 10 0;wall 12 0;");
        Check.due("the cheap one is", () -> two.show(1, 0), 1);
        HiredEnemy four = Check.with("wall 10 0;wall 11 0;wall 12 0;wall 13 0;");
        Check.due("the 4th does not stand in", () -> four.show(1, 0), 3);
        Check.due("the same men for fewer WALLS: the one that the duke gives up is not", () -> four.show(1, 1), 1);
    }

    private static void twelveMonths() {
        HiredEnemy x = new HiredEnemy();
        for (int month = 0; month < 12; month++) {
            x.offers(2, month, 10);
            Check.due("of " + (month + 1), x::most, 10 * (month + 1));
        }
        Check.outside("month", x, 0, 11, month -> x.offers(1, (int) month, 5));
        Check.outside("month asked", x, 0, 11, month -> x.serves((int) month));
    }

    private static void oneOrNone() {
        HiredEnemy x = new HiredEnemy();
        Check.due("none", () -> x.serves(0), 0);
        x.offers(1, 0, 5);
        x.offers(2, 0, 7);
        Check.due("not both", x::most, 7);
        Check.due("the one", () -> x.serves(0), 2);
    }

    private static void neverTheOther() {
        for (int first = 1; first <= 2; first++) {
            HiredEnemy x = new HiredEnemy();
            x.offers(first, 0, 5);
            x.offers(3 - first, 1, 6);
            Check.due("not in the next MONTH", x::most, 6);
            Check.due("none ahead of it", () -> x.serves(0), 0);
            x.offers(3 - first, 2, 4);
            int one = first;
            Check.due("5, none, 4 is less than 6, 4", x::most, 10);
            x.offers(one, 0, 7);
            Check.due("7, none, 4 is more", x::most, 11);
            Check.due("with none between", () -> x.serves(0) * 100 + x.serves(1) * 10 + x.serves(2), one * 100 + 3 - one);
            x.offers(one, 1, 1);
            Check.due("7, 1 and then not the other", x::most, 11);
            Check.due("back to the same", () -> x.offers(one, 3, 9), 0);
            Check.due("7, none, none, 9 and 7, 1, none, 9", x::most, 17);
        }
        HiredEnemy edge = new HiredEnemy();
        edge.offers(1, 10, 5);
        edge.offers(2, 11, 4);
        Check.due("MONTHS 10, 11", edge::most, 5);
        HiredEnemy round = new HiredEnemy();
        round.offers(1, 11, 5);
        round.offers(2, 0, 4);
        Check.due("11 and 0 are not next to one another", round::most, 9);
    }

    private static void mostCoin() {
        HiredEnemy x = new HiredEnemy();
        int[] first = {9, 0, 0, 8, 0, 0, 9, 0, 0, 8, 0, 0};
        int[] second = {0, 5, 5, 0, 5, 5, 0, 5, 5, 0, 5, 5};
        for (int m = 0; m < 12; m++) {
            x.offers(1, m, first[m]);
            x.offers(2, m, second[m]);
        }
        // All of the second's are 40; 9, none, 5, none, 5, none, 9, .. are less.
        Check.due("MOST", x::most, 44);
        for (int m = 0; m < 12; m++) {
            x.offers(1, m, 999);
            x.offers(2, m, 999);
        }
        Check.due("the most of all", x::most, 11988);
    }

    private static void firstWay() {
        HiredEnemy x = new HiredEnemy();
        x.offers(1, 0, 5);
        x.offers(2, 0, 5);
        Check.due("1 ahead of 2", () -> x.serves(0), 1);
        x.offers(2, 1, 5);
        x.offers(1, 1, 5);
        Check.due("1, 1 ahead of 2, 2", () -> x.serves(0) * 10 + x.serves(1), 11);
        Check.due("none ahead of one who offers nothing", () -> x.serves(2), 0);
        HiredEnemy y = new HiredEnemy();
        y.offers(1, 0, 5);
        y.offers(2, 1, 5);
        Check.due("none, 2 ahead of 1, none", () -> y.serves(0) * 10 + y.serves(1), 2);
        HiredEnemy z = new HiredEnemy();
        for (int m = 0; m < 12; m++) {
            z.offers(1, m, 1);
        }
        z.offers(1, 0, 0);
        Check.due("none, where it is the same", () -> z.serves(0), 0);
        Check.due("then 1", () -> z.serves(1) * 10 + z.serves(11), 11);
    }

    private static void forgotten() {
        HiredEnemy x = new HiredEnemy();
        x.kind(0, 3, 5);
        x.seen(0);
        x.spy(true, 15);
        x.odds(3, 4);
        believed("odds at first", x, 3, 4);
        Check.due("no things", () -> x.count(2), 0);
        for (int i = 1; i <= 12; i++) {
            int things = i;
            Check.due("12 anew", () -> x.seen(1), things);
        }
        x.odds(1, 1);
        x.seen(0);
        believed("kinds stay", x, 3, 5);
    }

    private static void kinds() {
        HiredEnemy x = new HiredEnemy();
        x.odds(3, 7);
        for (int kind = 0; kind < 4; kind++) {
            x.seen(kind);
            believed("8, 8 at first", x, 3, 7);
        }
        x.odds(1, 1);
        x.kind(0, 1, 16);
        x.kind(1, 3, 16);
        x.kind(2, 16, 5);
        x.kind(3, 16, 7);
        x.seen(1);
        believed("kind 1", x, 3, 16);
        x.seen(2);
        believed("kind 2", x, 3, 5);
        x.seen(3);
        believed("kind 3", x, 48, 35);
        x.seen(0);
        believed("kind 0", x, 3, 35);
        Check.outside("kind", x, 0, 3, n -> kindOf(x, n, 2, 2));
        Check.outside("real", x, 1, 16, n -> kindOf(x, 1, n, 2));
        Check.outside("hired", x, 1, 16, n -> kindOf(x, 1, 2, n));
        x.odds(1, 1);
        x.seen(1);
        believed("refused ones leave the kind", x, 3, 16);
    }

    private static void seen() {
        HiredEnemy x = new HiredEnemy();
        for (int i = 1; i <= 12; i++) {
            int things = i;
            Check.due("things", () -> x.seen(things % 4), things);
        }
        Check.outside("kind", x, 0, 3, n -> x.seen((int) n));
    }

    private static void thereAreTwelve() {
        HiredEnemy x = new HiredEnemy();
        x.odds(5, 3);
        x.kind(0, 16, 1);
        for (int i = 0; i < 12; i++) {
            x.seen(1);
        }
        String before = Check.whole(x);
        Check.due("a 13th", () -> x.seen(0), -1);
        Check.due("a 14th", () -> x.seen(0), -1);
        Check.same("all stays", Check.whole(x), before);
        Check.due("it is not refused by an exception", () -> x.status(2), 0);
        Check.outside("though there are 12: kind", x, 0, 3, n -> x.seen((int) n));
    }

    private static void spy() {
        HiredEnemy x = new HiredEnemy();
        for (int i = 1; i <= 12; i++) {
            int things = i;
            Check.due("things", () -> x.spy(things % 2 == 0, 8), things);
        }
        String before = Check.whole(x);
        Check.due("a 13th, yes", () -> x.spy(true, 15), -1);
        Check.due("a 13th, no", () -> x.spy(false, 1), -1);
        Check.same("all stays", Check.whole(x), before);
        Check.outside("r", x, 1, 15, r -> x.spy(true, (int) r));
        HiredEnemy mixed = new HiredEnemy();
        for (int i = 1; i <= 11; i++) {
            mixed.seen(0);
        }
        Check.due("the 12th", () -> mixed.spy(true, 15), 12);
        Check.due("the 13th", () -> mixed.seen(0), -1);
    }

    private static void believed() {
        HiredEnemy x = new HiredEnemy();
        x.odds(7, 11);
        Check.due("real", () -> x.believed(0), 7);
        Check.due("hired", () -> x.believed(1), 11);
        Check.outside("what", x, 0, 1, what -> x.believed((int) what));
    }

    private static void earnest() {
        HiredEnemy x = Check.with("wall 4 0;wall 3 0;");
        Check.due("SAFE", () -> x.earnest(1, 1, 0), 3);
        Check.due("SURE", () -> x.earnest(1, 1, 1), 0);
    }

    private static void earnestRefuses() {
        HiredEnemy x = Check.with("wall 4 0;wall 3 0;");
        Check.outside("a", x, 0, 6, a -> x.earnest((int) a, 0, 0));
        Check.outside("d", x, 0, 6, d -> x.earnest(0, (int) d, 0));
        Check.outside("what", x, 0, 1, what -> x.earnest(0, 0, (int) what));
        Check.inside("a", 0, 6, a -> x.earnest((int) a, 6, 1));
        Check.inside("d", 0, 6, d -> x.earnest(6, (int) d, 0));
        HiredEnemy bare = new HiredEnemy();
        Check.outside("a, without WALLS", bare, 0, 6, a -> bare.earnest((int) a, 0, 0));
    }

    private static void stands() {
        HiredEnemy x = Check.with("wall 10 0;wall 11 0;wall 12 0;");
        Check.due("at the dearest", () -> x.stands(1, 1), 1);
        Check.due("at two", () -> x.stands(1, 2), 11);
        Check.due("at each", () -> x.stands(1, 3), 111);
        Check.due("the first way by digits", () -> x.stands(1, 5), 113);
        Check.due("all the same: all at the last", () -> x.stands(0, 6), 6);
        Check.due("none", () -> x.stands(6, 0), 0);
        HiredEnemy two = Check.with("wall 12 0;wall 11 0;");
        Check.due("the first WALL's is the highest", () -> two.stands(1, 1), 10);
        HiredEnemy one = Check.with("wall 12 0;");
        Check.due("one digit", () -> one.stands(1, 6), 6);
        Check.outside("a", x, 0, 6, a -> x.stands((int) a, 0));
        Check.outside("d", x, 0, 6, d -> x.stands(0, (int) d));
        Check.inside("a", 0, 6, a -> x.stands((int) a, 6));
        Check.inside("d", 0, 6, d -> x.stands(6, (int) d));
    }

    private static void show() {
        HiredEnemy x = Check.with("wall 12 0;wall 10 0;wall 11 0;");
        Check.due("WALLS 1 and 2", () -> x.show(1, 0), 6);
        HiredEnemy y = Check.with("wall 10 0;wall 12 0;wall 11 0;");
        Check.due("WALLS 0 and 2", () -> y.show(1, 0), 5);
        Check.due("all", () -> y.show(0, 0), 7);
        Check.due("none", () -> y.show(3, 0), 0);
        Check.outside("a", x, 0, 6, a -> x.show((int) a, 0));
        Check.outside("d", x, 0, 6, d -> x.show(0, (int) d));
        Check.inside("a", 0, 6, a -> x.show((int) a, 6));
        Check.inside("d", 0, 6, d -> x.show(6, (int) d));
    }

    private static void offers() {
        HiredEnemy x = new HiredEnemy();
        for (int month = 0; month < 12; month++) {
            for (int d = 1; d <= 2; d++) {
                int duke = d;
                int when = month;
                Check.due("0 at first", () -> x.offers(duke, when, 10 * when + duke), 0);
            }
        }
        for (int month = 0; month < 12; month++) {
            int when = month;
            Check.due("what the first offered", () -> x.offers(1, when, 999), 10 * when + 1);
            Check.due("what the second offered", () -> x.offers(2, when, 0), 10 * when + 2);
            Check.due("the most", () -> x.offers(1, when, 1), 999);
            Check.due("the least", () -> x.offers(2, when, 1), 0);
        }
        Check.outside("duke", x, 1, 2, duke -> x.offers((int) duke, 0, 5));
        Check.outside("month", x, 0, 11, month -> x.offers(1, (int) month, 5));
        Check.outside("coin", x, 0, 999, coin -> x.offers(2, 11, (int) coin));
        Check.due("refused ones leave what was offered", () -> x.offers(2, 11, 3), 1);
        Check.inside("coin", 0, 999, coin -> x.offers(1, 0, (int) coin));
    }

    private static void most() {
        HiredEnemy x = new HiredEnemy();
        Check.due("nothing is offered", x::most, 0);
        x.offers(1, 11, 999);
        Check.due("in the last MONTH", x::most, 999);
        x.offers(1, 11, 0);
        Check.due("not any more", x::most, 0);
        x.offers(2, 0, 1);
        Check.due("in the first MONTH", x::most, 1);
    }

    private static void serves() {
        HiredEnemy x = new HiredEnemy();
        for (int month = 0; month < 12; month++) {
            int when = month;
            Check.due("none at first", () -> x.serves(when), 0);
        }
        x.offers(1, 0, 3);
        x.offers(2, 11, 4);
        Check.due("the first in MONTH 0", () -> x.serves(0), 1);
        Check.due("none in MONTH 1", () -> x.serves(1), 0);
        Check.due("none in MONTH 10", () -> x.serves(10), 0);
        Check.due("the second in MONTH 11", () -> x.serves(11), 2);
        Check.outside("month", x, 0, 11, month -> x.serves((int) month));
    }
}
