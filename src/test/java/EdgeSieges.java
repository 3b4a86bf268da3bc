import java.util.function.ToIntFunction;

/** Sentences of the Terms: the text of a SIEGE and its limits. */
final class EdgeSieges {
    private static final String STILL = "duke 0 0 0;enemy 0 0 0;town 0 0;fear 0 0 0;";

    private EdgeSieges() {
    }

    static void run() {
        Sentence.says("TWO TEXTS. A SIEGE is of up to 500 bytes:", EdgeSieges::bytes);
        Sentence.says("{ CLAUSE \";\" },", EdgeSieges::clauses);
        Sentence.says("at most 60.", EdgeSieges::sixty);
        Sentence.says("CLAUSE: \"wall\" S H (WALLS, numbered from 0 on, 6 at most:", EdgeSieges::walls);
        Sentence.says("STRENGTH S, 1 to 99;", () -> range("wall ", " 3;", 1, 99, x -> x.wall(0, 0)));
        Sentence.says("H is mended a MONTH, 0 to 50),", EdgeSieges::mended);
        Sentence.says("\"duke\" C M K (coin 0 to 9,999,", () -> range("duke ", " 1 1;", 0, 9999, x -> x.sums(0)));
        Sentence.says("men 0 to 999,", () -> range("duke 1 ", " 1;", 0, 999, x -> x.sums(3)));
        Sentence.says("COOKS 0 to 9;", () -> range("town 0 0;enemy 0 0 0;duke 900 10 ", ";", 0, 9, x -> 900 - x.would(-1, 1, 0)));
        Sentence.says("1,000, 100, 3 without),", EdgeSieges::dukeWithout);
        Sentence.says("\"enemy\" C M K (likewise;", EdgeSieges::enemy);
        Sentence.says("0, 100, 5),", EdgeSieges::enemyWithout);
        Sentence.says("\"town\" C T (coin;", () -> range("town ", " 1;", 0, 9999, x -> x.sums(2)));
        Sentence.says("TAX T, 0 to 100;",
            () -> range("duke 0 100 0;enemy 0 0 0;fear 100 0 0;town 900 ", ";", 0, 100, x -> x.would(-1, 1, 0)));
        Sentence.says("5,000, 20),", EdgeSieges::townWithout);
        Sentence.says("\"fear\" F B D (FEAR at first, 0 to 100;", () -> range("fear ", " 1 1;", 0, 100, x -> x.sums(5)));
        Sentence.says("more by B for each breach, 0 to 50;", () -> range("wall 1 0;fear 0 ", " 0;", 0, 50, x -> with(x, "corks 1;", 5)));
        Sentence.says("less by D each MONTH, 0 to 50;", () -> range("fear 100 0 ", ";", 0, 50, x -> 100 - x.would(-1, 1, 5)));
        Sentence.says("20, 10, 5),", EdgeSieges::fearWithout);
        Sentence.says("\"near\" R N (at NEARNESS R, 0 to 9,", EdgeSieges::near);
        Sentence.says("FEAR is N more a MONTH, 0 to 20;", () -> range("fear 0 0 0;near 7 ", ";", 0, 20, x -> with(x, "near 7;", 5)));
        Sentence.says("9 less R without),", EdgeSieges::nearWithout);
        Sentence.says("\"mason\" P (coin for each of STRENGTH that is mended, 0 to 9;",
            () -> range(STILL + "wall 9 1;duke 50 0 0;mason ", ";", 0, 9, x -> 50 - with(x, "corks 1;", 0)));
        Sentence.says("mended, 0 to 9; 1), or", EdgeSieges::masonWithout);
        Sentence.says("\"cost\" A B (the enemy wants A and B times corks, and A for each of 9 less R;", EdgeSieges::cost);
        Sentence.says("0 to 99 each;", EdgeSieges::costRange);
        Sentence.says("each; 5, 1).", EdgeSieges::costWithout);
        Sentence.says("Of all but wall the last counts", EdgeSieges::last);
        Sentence.says("(of near: of one R).", EdgeSieges::lastOfNear);
    }

    /** What one MONTH by this CONTRACT would leave. */
    private static int with(HiredEnemy x, String contract, int what) {
        int told = Check.contract(x, contract);
        return x.would(told, 1, what);
    }

    /** A text that is no SIEGE: its FAULT, the place, and all stays. */
    static void wrong(String text, int fault, int place) {
        HiredEnemy x = Check.with("wall 5 1;duke 77 8 3;mason 2;", "pay 7;");
        x.sign(0);
        x.months(1);
        x.image();
        x.seen(0);
        x.offers(1, 0, 9);
        String before = Check.state(x);
        Check.same("siege: " + text, Check.siege(x, text), fault - 10);
        Check.due("place in: " + text, x::fault, place);
        Check.same("all stays: " + text, Check.state(x), before);
        Check.due("all else stays: " + text, () -> x.count(0) * 1000 + x.count(2) * 100 + x.most(), 1109);
        Check.due("the tape is empty: " + text, () -> x.count(1), 0);
    }

    private static HiredEnemy right(String text, int walls) {
        HiredEnemy x = new HiredEnemy();
        Check.same("siege: " + text, Check.siege(x, text), walls);
        Check.due("no fault in: " + text, x::fault, -1);
        return x;
    }

    /** A number of a CLAUSE: each of low to high is taken and shows, the ones next to them are none such. */
    private static void range(String ahead, String behind, int low, int high, ToIntFunction<HiredEnemy> shows) {
        int step = high > 1000 ? 101 : 1;
        for (int n = low; n <= high; n += n + step > high && n < high ? high - n : step) {
            HiredEnemy x = Check.with(ahead + n + behind);
            int number = n;
            Check.due(ahead + n + behind, () -> shows.applyAsInt(x), number);
        }
        if (low > 0) {
            wrong(ahead + (low - 1) + behind, 2, ahead.length());
        }
        wrong(ahead + (high + 1) + behind, 2, ahead.length());
        wrong(ahead + (high * 10) + behind, 2, ahead.length());
        // What would come round to a number in range, if 32 or 64 bits were all there is.
        wrong(ahead + (4294967296L + high) + behind, 2, ahead.length());
        wrong(ahead + "18446744073709551617" + behind, 2, ahead.length());
    }

    private static void bytes() {
        HiredEnemy x = right(" ".repeat(491) + "wall 7 0;", 1);
        Check.due("the last of 500 bytes counts", () -> x.wall(0, 0), 7);
        wrong(" ".repeat(499) + ";", 1, 499);
        wrong(" ".repeat(492) + "wall 7 0", 1, 500);
        HiredEnemy full = new HiredEnemy();
        Check.feed(full, " ".repeat(491) + "wall 7 0;");
        Check.refusedArgument("501 bytes", full, () -> full.siege(501));
        Check.due("500 bytes", () -> full.siege(500), 1);
    }

    private static void clauses() {
        right("", 0);
        right("wall 1 1;", 1);
        right("wall 1 1;mason 1;wall 2 2;", 2);
        wrong(";", 1, 0);
        wrong("wall 1 1", 1, 8);
        wrong("wall 1 1;;", 1, 9);
        wrong("wall 1 1 wall 2 2;", 1, 9);
        wrong("wall 1 1;wall 2 2", 1, 17);
    }

    private static void sixty() {
        String most = "mason1;".repeat(59);
        Check.due("the 60th counts", () -> right(most + "wall8 0;", 1).wall(0, 0), 8);
        right(most + "mason1; ", 0);
        wrong(most + "mason1;mason1;", 3, 420);
        wrong(most + "mason1;wall1 1;", 3, 420);
        wrong("mason 1;" + "wall1 1;".repeat(6) + "cost1 1;".repeat(53) + "town1 1;", 3, 8 + 59 * 8);
    }

    private static void walls() {
        StringBuilder text = new StringBuilder();
        for (int i = 0; i < 6; i++) {
            text.append("wall ").append(11 + i).append(' ').append(i).append(';');
        }
        HiredEnemy x = right(text.toString(), 6);
        for (int i = 0; i < 6; i++) {
            int wall = i;
            Check.due("WALL " + i, () -> x.wall(wall, 0) * 10 + x.wall(wall, 2), (11 + i) * 10 + i);
        }
        Check.due("6 WALLS", () -> right(text + "mason 2;", 6).told(0), 6);
        wrong(text + "wall 17 6;", 3, text.length());
        wrong(text + "mason 2; wall 17 6;", 3, text.length() + 9);
    }

    private static void mended() {
        range("wall 60 ", ";", 0, 50, x -> x.wall(0, 2));
        range("duke 900 0 0;wall 99 ", ";", 0, 50, x -> 900 - with(x, "corks 50;near 9;", 0));
    }

    private static void dukeWithout() {
        HiredEnemy x = right("town 0 0;enemy 0 0 3;", 0);
        Check.due("coin", () -> x.sums(0), 1000);
        Check.due("men", () -> x.sums(3), 100);
        Check.due("COOKS: 3 for each 10", () -> x.would(-1, 1, 0), 970);
        Check.due("COOKS: as many as the enemy's", () -> x.would(-1, 9, 3), 100);
    }

    private static void enemy() {
        range("enemy ", " 1 1;", 0, 9999, x -> x.sums(1));
        range("enemy 1 ", " 1;", 0, 999, x -> x.sums(4));
        range("town 0 0;duke 0 0 0;enemy 900 10 ", ";", 0, 9, x -> 900 - x.would(-1, 1, 1));
    }

    private static void enemyWithout() {
        HiredEnemy x = right("duke 500 0 5;town 0 0;fear 0 0 0;", 0);
        Check.due("coin", () -> x.sums(1), 0);
        Check.due("men", () -> x.sums(4), 100);
        Check.due("COOKS: 5 for each 10", () -> with(x, "pay 80;", 1), 30);
        Check.due("COOKS: as many as the duke's", () -> x.would(-1, 9, 4), 100);
    }

    private static void townWithout() {
        HiredEnemy x = right("duke 0 100 0;enemy 0 0 0;fear 100 0 0;", 0);
        Check.due("coin", () -> x.sums(2), 5000);
        Check.due("TAX", () -> x.would(-1, 1, 0), 20);
    }

    private static void fearWithout() {
        HiredEnemy x = right("wall 1 0;", 1);
        Check.due("FEAR at first", () -> x.sums(5), 20);
        Check.due("each MONTH", () -> x.would(-1, 1, 5), 15);
        Check.due("each breach", () -> with(x, "corks 1;", 5), 25);
    }

    private static void near() {
        for (int r = 0; r <= 9; r++) {
            HiredEnemy x = Check.with("fear 0 0 0;near " + r + " 13;");
            for (int at = 0; at <= 8; at++) {
                int there = at;
                // 7 CONTRACTS would be too many for one SIEGE.
                if (at == r || at == (r + 1) % 9 || at == (r + 8) % 9) {
                    Check.due("near " + r + ", at " + at, () -> with(x, "near " + there + ";", 5), at == r ? 13 : 9 - at);
                }
            }
        }
        Check.due("near 9", () -> with(Check.with("fear 0 0 0;near 9 13;"), "", 5), 13);
        wrong("near 10 1;", 2, 5);
        wrong("near 4294967296 1;", 2, 5);
        wrong("near 99 99;", 2, 5);
    }

    private static void nearWithout() {
        for (int r = 0; r <= 9; r++) {
            HiredEnemy x = Check.with("fear 0 0 0;mason 2;", "near " + r + ";");
            Check.due("at " + r, () -> x.would(0, 1, 5), 9 - r);
        }
    }

    private static void masonWithout() {
        HiredEnemy x = Check.with(STILL + "wall 9 3;duke 50 0 0;", "corks 2;");
        Check.due("1 for each of 2", () -> x.would(0, 1, 0), 48);
    }

    private static void cost() {
        HiredEnemy x = Check.with("cost 70 3;");
        Check.due("at 9, without corks", () -> x.wants(9, 0), 70);
        Check.due("at 9, one cork", () -> x.wants(9, 1), 73);
        Check.due("at 8, without corks", () -> x.wants(8, 0), 140);
        Check.due("at 0, 99 corks", () -> x.wants(0, 99), 70 + 297 + 630);
        Check.due("the most", () -> Check.with("cost 99 99;").wants(0, 99), 99 + 9801 + 891);
        Check.due("the least", () -> Check.with("cost 0 0;").wants(0, 99), 0);
    }

    private static void costRange() {
        range("cost ", " 1;", 0, 99, x -> x.wants(9, 0));
        range("cost 1 ", ";", 0, 99, x -> x.wants(9, 1) - 1);
    }

    private static void costWithout() {
        HiredEnemy x = right("mason 1;", 0);
        Check.due("5", () -> x.wants(9, 0), 5);
        Check.due("5, 1", () -> x.wants(9, 1), 6);
    }

    private static void last() {
        HiredEnemy x = Check.with("duke 1 2 9;enemy 3 4 9;town 5 0;fear 7 8 9;mason 9;cost 11 12;wall 9 2;"
            + "cost 5 6;mason 2;fear 30 7 0;town 600 0;enemy 70 80 1;duke 90 99 1;wall 8 2;", "corks 8;near 9;");
        Check.due("all WALLS", () -> x.told(0), 2);
        Check.due("duke", () -> x.sums(0) * 1000 + x.sums(3), 90099);
        Check.due("enemy", () -> x.sums(1) * 1000 + x.sums(4), 70080);
        Check.due("town", () -> x.sums(2), 600);
        Check.due("fear", () -> x.sums(5), 30);
        Check.due("cost", () -> x.wants(8, 1), 16);
        Check.due("fear: B, D", () -> x.would(0, 1, 5), 37);
        Check.due("duke's COOKS", () -> x.would(-1, 1, 0), 81);
        Check.due("enemy's COOKS", () -> x.would(-1, 1, 1), 62);
        HiredEnemy mason = Check.with(STILL + "mason 3;duke 50 0 0;wall 9 2;mason 4;", "corks 2;");
        Check.due("mason", () -> mason.would(0, 1, 0), 42);
        wrong("mason 10;mason 1;", 2, 6);
    }

    private static void lastOfNear() {
        HiredEnemy x = Check.with("fear 0 0 0;near 3 11;near 4 12;near 3 13;near 9 14;near 9 0;", "near 3;", "near 4;", "near 9;", "near 5;");
        Check.due("3", () -> x.would(0, 1, 5), 13);
        Check.due("4", () -> x.would(1, 1, 5), 12);
        Check.due("9", () -> x.would(2, 1, 5), 0);
        Check.due("5, without", () -> x.would(3, 1, 5), 4);
    }
}
