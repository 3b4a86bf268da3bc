import java.util.function.ToIntFunction;

/** Sentences of the Terms: the text of a CONTRACT and its limits. */
final class EdgeContracts {
    private static final String RICH = "wall 5 0;wall 6 0;duke 9999 0 0;enemy 0 0 0;town 0 0;fear 0 0 0;";

    private EdgeContracts() {
    }

    static void run() {
        Sentence.says("A CONTRACT (numbered from 0 on, 6 at most)", EdgeContracts::six);
        Sentence.says("is of up to 200 bytes:", EdgeContracts::bytes);
        Sentence.says("{ RULE \";\" },", EdgeContracts::rules);
        Sentence.says("at most 20:", EdgeContracts::twenty);
        Sentence.says("\"pay\" N (coin a MONTH, 0 to 999),", EdgeContracts::pay);
        Sentence.says("\"winter\" N (in MONTHS that leave 10, 11, 0 or 1 by 12: that instead;", EdgeContracts::winter);
        Sentence.says("without: pay),", EdgeContracts::withoutWinter);
        Sentence.says("\"near\" R (0 to 9;", () -> range("near ", ";", 0, 9, x -> x.rule(0, 2)));
        Sentence.says("9 without),", EdgeContracts::withoutNear);
        Sentence.says("\"corks\" N (a MONTH, 0 to 99),", EdgeContracts::corks);
        Sentence.says("\"breach\" W M (WALL W is to fall in MONTH M of it, 0 to 35),", EdgeContracts::breach);
        Sentence.says("\"bonus\" N (for each breach, 0 to 99),", EdgeContracts::bonus);
        Sentence.says("or \"till\" M (MONTHS, 1 to 36;", EdgeContracts::till);
        Sentence.says("36 without).", EdgeContracts::withoutTill);
        Sentence.says("Of one the last counts,", EdgeContracts::last);
        Sentence.says("of breach: of one M.", EdgeContracts::lastOfBreach);
    }

    /** A text that is no CONTRACT: its FAULT, the place, and all stays. */
    static void wrong(String text, int fault, int place) {
        HiredEnemy x = Check.with(RICH, "pay 7;near 3;");
        x.sign(0);
        x.months(1);
        String before = Check.state(x);
        Check.same("contract: " + text, Check.contract(x, text), fault - 10);
        Check.due("place in: " + text, x::fault, place);
        Check.same("all stays: " + text, Check.state(x), before);
        Check.due("the one told stays: " + text, () -> x.rule(0, 0) * 10 + x.rule(0, 2), 73);
        Check.due("the tape is empty: " + text, () -> x.count(1), 0);
        // What was read ahead of the FAULT must not be left in the next one.
        Check.due("the next one: " + text, () -> Check.contract(x, ""), 1);
        Check.due("it is empty: " + text, () -> x.rule(1, 0) + x.rule(1, 1) + x.rule(1, 3) + x.rule(1, 4) + x.rule(1, 6), 0);
        Check.due("it is near 9 till 36: " + text, () -> x.rule(1, 2) * 100 + x.rule(1, 5), 936);
    }

    private static HiredEnemy right(String text) {
        HiredEnemy x = Check.with(RICH);
        Check.same("contract: " + text, Check.contract(x, text), 0);
        Check.due("no fault in: " + text, x::fault, -1);
        return x;
    }

    private static void range(String ahead, String behind, int low, int high, ToIntFunction<HiredEnemy> shows) {
        for (int n = low; n <= high; n++) {
            HiredEnemy x = right(ahead + n + behind);
            int number = n;
            Check.due(ahead + n + behind, () -> shows.applyAsInt(x), number);
        }
        if (low > 0) {
            wrong(ahead + (low - 1) + behind, 2, ahead.length());
        }
        wrong(ahead + (high + 1) + behind, 2, ahead.length());
        wrong(ahead + (4294967296L + low) + behind, 2, ahead.length());
        wrong(ahead + "18446744073709551617" + behind, 2, ahead.length());
    }

    private static void six() {
        HiredEnemy x = Check.with(RICH);
        for (int i = 0; i < 6; i++) {
            int number = i;
            Check.due("number", () -> Check.contract(x, "pay " + (50 + number) + ";"), i);
            Check.due("told", () -> x.told(1), i + 1);
        }
        for (int i = 0; i < 6; i++) {
            int number = i;
            Check.due("pay of " + i, () -> x.rule(number, 0), 50 + i);
        }
        Check.due("a 7th", () -> Check.contract(x, "pay 99;"), -1);
        Check.due("6 still", () -> x.told(1), 6);
        Check.refused("no 7th", x, "NoSuchElementException", () -> x.rule(6, 0));
        Check.due("the 6th stays", () -> x.rule(5, 0), 55);
        x.sign(5);
        x.months(2);
        Check.due("the 6th can be in force", () -> x.sums(1), 110);
    }

    private static void bytes() {
        HiredEnemy x = right(" ".repeat(193) + "pay 77;");
        Check.due("the last of 200 bytes counts", () -> x.rule(0, 0), 77);
        wrong(" ".repeat(199) + ";", 1, 199);
        wrong(" ".repeat(194) + "pay 77", 1, 200);
        HiredEnemy more = Check.with(RICH);
        Check.feed(more, " ".repeat(201));
        Check.refusedArgument("201 bytes", more, () -> more.contract(201));
        Check.refusedArgument("220 bytes, all of the tape", more, () -> more.contract(220));
        Check.due("200 of 220", () -> more.contract(200), 0);
    }

    private static void rules() {
        right("");
        right("pay 1;");
        right("pay 1;corks 2;breach 0 0;");
        wrong(";", 1, 0);
        wrong("pay 1", 1, 5);
        wrong("pay 1;;", 1, 6);
        wrong("pay 1 corks 2;", 1, 6);
        wrong("pay 1;corks 2", 1, 13);
    }

    private static void twenty() {
        String most = "pay 9;".repeat(19);
        Check.due("the 20th counts", () -> right(most + "corks 8;").rule(0, 3), 8);
        right(most + "pay 9;  ");
        wrong(most + "pay 9;corks 8;", 3, 120);
        wrong(most + "pay 9;breach 0 0;", 3, 120);
        StringBuilder breaches = new StringBuilder();
        for (int i = 0; i < 20; i++) {
            breaches.append("breach0 ").append(i % 10).append(';');
        }
        Check.due("20 times breach", () -> right(breaches.toString()).rule(0, 6), 10);
    }

    private static void pay() {
        range("pay ", ";", 0, 999, x -> x.rule(0, 0));
        HiredEnemy x = right("pay 999;");
        Check.due("a MONTH", () -> x.would(0, 1, 1), 999);
        Check.due("each MONTH", () -> x.would(0, 10, 1), 9990);
        Check.due("nothing", () -> right("pay 0;").would(0, 10, 1), 0);
    }

    private static void winter() {
        range("winter ", ";", 0, 999, x -> x.rule(0, 1));
        HiredEnemy x = Check.with("duke 9999 0 0;enemy 0 0 0;town 0 0;", "pay 1;winter 100;");
        int paid = 0;
        for (int month = 0; month < 120; month++) {
            x.sign(0);
            x.months(1);
            int left = month % 12;
            paid += left < 2 || left > 9 ? 100 : 1;
            Check.due("MONTH " + month, () -> x.sums(1), paid);
        }
        HiredEnemy late = Check.with("duke 9999 0 0;enemy 0 0 0;town 0 0;", "pay 1;winter 100;");
        late.months(5);
        late.sign(0);
        Check.due("MONTH 5 is none, though the first of it", () -> late.would(0, 1, 1), 1);
        Check.due("MONTHS 5 to 9", () -> late.would(0, 5, 1), 5);
        Check.due("MONTHS 5 to 10", () -> late.would(0, 6, 1), 105);
        HiredEnemy none = Check.with("duke 9999 0 0;enemy 0 0 0;town 0 0;", "pay 9;winter 0;");
        Check.due("nothing in winter", () -> none.would(0, 3, 1), 9);
    }

    private static void withoutWinter() {
        HiredEnemy x = Check.with("duke 9999 0 0;enemy 0 0 0;town 0 0;", "pay 9;", "winter 9;", "");
        Check.due("rule", () -> x.rule(0, 1), 9);
        Check.due("12 MONTHS", () -> x.would(0, 12, 1), 108);
        Check.due("winter without pay", () -> x.would(1, 12, 1), 36);
        Check.due("neither", () -> x.rule(2, 1), 0);
    }

    private static void withoutNear() {
        HiredEnemy x = Check.with("wall 20 0;fear 0 0 0;near 9 17;", "corks 4;");
        Check.due("rule", () -> x.rule(0, 2), 9);
        Check.due("FEAR as at 9", () -> x.would(0, 1, 5), 17);
        x.sign(0);
        x.months(1);
        Check.due("each cork takes 1", () -> x.wall(0, 1), 16);
    }

    private static void corks() {
        range("corks ", ";", 0, 99, x -> x.rule(0, 3));
        HiredEnemy x = right("corks 99;");
        Check.due("a MONTH", () -> x.would(0, 1, 9), 99);
        Check.due("each MONTH", () -> x.would(0, 36, 9), 99 * 36);
        Check.due("none", () -> right("corks 0;").would(0, 36, 9), 0);
        Check.due("without", () -> right("").would(0, 36, 9), 0);
    }

    private static void breach() {
        range("corks 1;breach ", " 3;", 0, 1, EdgeContracts::hitInMonth3);
        range("breach 1 ", ";", 0, 35, EdgeContracts::firstMissed);
        HiredEnemy bare = new HiredEnemy();
        Check.due("without WALLS", () -> Check.contract(bare, "breach 0 0;"), -8);
        Check.due("place", bare::fault, 7);
        HiredEnemy full = Check.with("wall 1 1;".repeat(6));
        Check.due("WALL 5", () -> Check.contract(full, "breach 5 0;"), 0);
        Check.due("WALL 6", () -> Check.contract(full, "breach 6 0;"), -8);
        Check.siege(full, "wall 1 1;");
        Check.due("WALL 1 is none any more", () -> Check.contract(full, "breach 1 0;"), -8);
    }

    /** At which WALL the cork of MONTH 3 went. */
    private static int hitInMonth3(HiredEnemy x) {
        x.sign(0);
        x.months(4);
        return x.corks(3, 1) == 1 ? 1 : x.corks(3, 0) - 1;
    }

    private static int firstMissed(HiredEnemy x) {
        for (int n = 1; n <= 36; n++) {
            if (x.would(0, n, 7) == 1) {
                return n - 1;
            }
        }
        return -1;
    }

    private static void bonus() {
        range("bonus ", ";", 0, 99, x -> x.rule(0, 4));
        HiredEnemy x = right("corks 15;bonus 99;near 9;breach 0 0;");
        Check.due("for each of 3 breaches", () -> x.would(0, 1, 1), 297);
        Check.due("without", () -> right("corks 15;breach 0 0;").would(0, 1, 1), 0);
    }

    private static void till() {
        range("till ", ";", 1, 36, x -> x.rule(0, 5));
        range("pay 1;till ", ";", 1, 36, x -> x.would(0, 60, 1));
    }

    private static void withoutTill() {
        HiredEnemy x = right("pay 1;");
        Check.due("rule", () -> x.rule(0, 5), 36);
        Check.due("36 MONTHS are paid", () -> x.would(0, 60, 1), 36);
    }

    private static void last() {
        HiredEnemy x = right("pay 1;winter 2;near 3;corks 4;bonus 5;till 6;till 16;bonus 15;corks 14;near 8;winter 12;pay 11;");
        int[] due = {11, 12, 8, 14, 15, 16, 0};
        for (int i = 0; i < 7; i++) {
            int what = i;
            Check.due("rule " + i, () -> x.rule(0, what), due[i]);
        }
        wrong("pay 1000;pay 1;", 2, 4);
    }

    private static void lastOfBreach() {
        HiredEnemy x = right("corks 1;breach 0 0;breach 1 0;breach 1 1;breach 0 1;breach 0 35;breach 0 35;");
        Check.due("of 3 MONTHS", () -> x.rule(0, 6), 3);
        x.sign(0);
        x.months(2);
        Check.due("MONTH 0", () -> x.corks(0, 0) * 10 + x.corks(0, 1), 1);
        Check.due("MONTH 1", () -> x.corks(1, 0) * 10 + x.corks(1, 1), 10);
    }
}
