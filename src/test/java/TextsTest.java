/** Promises 1 to 9: a new object, the TAPE, the two texts and their FAULTS, what they told. */
public final class TextsTest {
    public static void main(String[] args) {
        newObject();
        tape();
        siegeTexts();
        behindTheText();
        withoutClauses();
        siegeRanges();
        siegeCounts();
        siegeClears();
        contractTexts();
        contractRanges();
        contractCounts();
        asked();
        wants();
        Check.end("TextsTest");
    }

    private static void newObject() {
        HiredEnemy x = new HiredEnemy();
        long[] sums = {1000, 0, 5000, 100, 100, 20, 0, 0, 0, 0};
        for (int i = 0; i < 10; i++) {
            int what = i;
            Check.due("1: sums(" + i + ")", () -> x.sums(what), sums[i]);
        }
        long[] told = {0, 0, 0, -1, -1};
        for (int i = 0; i < 5; i++) {
            int what = i;
            Check.due("1: told(" + i + ")", () -> x.told(what), told[i]);
        }
        Check.due("1: fault", x::fault, -1);
        Check.due("1: images", () -> x.count(0), 0);
        Check.due("1: tape", () -> x.count(1), 0);
        Check.due("1: things", () -> x.count(2), 0);
        Check.due("1: odds", () -> x.believed(0) * 10 + x.believed(1), 11);
        Check.due("1: restore", x::restore, -1);
        Check.due("1: status", () -> x.status(0) + x.status(1) + x.status(2), 0);
        HiredEnemy told0 = new HiredEnemy();
        told0.siege(0);
        Check.same("1: as a siege without clauses", Check.state(x), Check.state(told0));
    }

    private static void tape() {
        HiredEnemy x = new HiredEnemy();
        for (int i = 1; i <= 25; i++) {
            int want = i * 20;
            Check.due("2: feed", () -> x.feed(0x20202020, 0x20202020, 0x20202020, 0x20202020, 0x20202020), want);
        }
        Check.due("2: feed beyond 500", () -> x.feed(1, 1, 1, 1, 1), -1);
        Check.due("2: it did nothing", () -> x.count(1), 500);
        Check.due("3: 500 blanks", () -> x.siege(500), 0);
        Check.due("3: empty then", () -> x.count(1), 0);
        Check.due("2: feed anew", () -> x.feed(-1, -1, -1, -1, -1), 20);
        Check.due("2: high bytes can't stand", () -> x.siege(20), -9);
        Check.due("2: the highest byte first", () -> x.feed('w' << 24 | 'a' << 16 | 'l' << 8 | 'l', 0x20372038, 0x3b000000, 0, 0), 20);
        Check.due("2: siege", () -> x.siege(9), 1);
        Check.due("2: S", () -> x.wall(0, 0), 7);
        Check.due("2: H", () -> x.wall(0, 2), 8);
        Check.illegal("3: more than there is", () -> x.siege(1));
        Check.illegal("3: below 0", () -> x.siege(-1));
        Check.feed(x, "pay 1;");
        Check.illegal("3: 21 of 20", () -> x.siege(21));
        Check.illegal("4: 21 of 20", () -> x.contract(21));
        Check.illegal("4: below 0", () -> x.contract(-1));
        Check.due("3: the tape stays", () -> x.count(1), 20);
        Check.due("4: the first 6 alone", () -> x.contract(6), 0);
        Check.due("4: empty then", () -> x.count(1), 0);
        for (int i = 0; i < 11; i++) {
            x.feed(0x20202020, 0x20202020, 0x20202020, 0x20202020, 0x20202020);
        }
        Check.illegal("4: 201", () -> x.contract(201));
        Check.due("4: 201 stays", () -> x.count(1), 220);
        Check.due("4: 200", () -> x.contract(200), 1);
        Check.due("33: refused", () -> x.status(2), 6);
    }

    private static void fault(String text, int answer, int place) {
        HiredEnemy x = Check.with("wall 5 1;wall 6 0;duke 1 2 3;", "pay 7;");
        x.sign(0);
        x.months(1);
        String before = Check.state(x);
        Check.same("3: " + text, Check.siege(x, text), answer);
        Check.due("5: " + text, x::fault, place);
        Check.due("3: tape empty behind " + text, () -> x.count(1), 0);
        if (answer < 0) {
            Check.same("3: all stays behind " + text, Check.state(x), before);
        }
    }

    private static void siegeTexts() {
        fault("", 0, -1);
        fault("   ", 0, -1);
        fault("wall 1 1;", 1, -1);
        fault("wall1 1;", 1, -1);
        fault("wall1;", -9, 5);
        fault("  wall  1   1  ;  ", 1, -1);
        fault("wall 0001 00;", 1, -1);
        fault("wall 1 1", -9, 8);
        fault("wall 1 1  ", -9, 10);
        fault("wall 1", -9, 6);
        fault("wall", -9, 4);
        fault("wall ", -9, 5);
        fault("wal 1 1;", -9, 0);
        fault("wallx 1 1;", -9, 0);
        fault("wallz 1 1;", -9, 0);
        fault("walla 1 1;", -9, 0);
        fault(" Wall 1 1;", -9, 1);
        fault("wAll 1 1;", -9, 0);
        fault(";", -9, 0);
        fault("wall 1 1;;", -9, 9);
        fault("1 wall;", -9, 0);
        fault("wall ;", -9, 5);
        fault("wall 1 1 1;", -9, 9);
        fault("wall -1 1;", -9, 5);
        fault("wall 1 1wall 1 1;", -9, 8);
        fault("mason 1,", -9, 7);
        fault("mason\t1;", -9, 5);
        fault("mason 1;\n", -9, 8);
        fault("mason 1;" + (char) 0, -9, 8);
        fault("mason 1;" + (char) 160, -9, 8);
        fault("pay 1;", -9, 0);
        fault("wall 99999999999999999999 1;", -8, 5);
        fault("wall 4294967297 1;", -8, 5);
        fault("wall 100 1", -8, 5);
        fault("wall 1 1;duke 1 x 1;wall 0 1;", -9, 16);
        fault("wall 1 1;duke 1 1000 x;", -8, 16);
        fault("mason 00000000000000000000000000000000000009;", 0, -1);
    }

    /** What stands on the TAPE behind the first n bytes is not of the text. */
    private static void behindTheText() {
        String tape = "wall 12 34;mason 2;  ";
        for (int n = 0; n <= tape.length(); n++) {
            HiredEnemy x = new HiredEnemy();
            Check.feed(x, tape);
            int length = n;
            boolean whole = n == 0 || n == 11 || n >= 19;
            // A word that is cut short is none.
            boolean cutWord = n < 4 || n > 11 && n < 16;
            Check.due("3: the first " + n, () -> x.siege(length), !whole ? -9 : n == 0 ? 0 : 1);
            Check.due("5: the first " + n, x::fault, whole ? -1 : !cutWord ? n : n < 4 ? 0 : 11);
        }
        HiredEnemy x = new HiredEnemy();
        Check.feed(x, "mason 99;");
        Check.due("3: a number that is cut short", () -> x.siege(7), -9);
        Check.due("5: at the length", x::fault, 7);
    }

    private static void withoutClauses() {
        HiredEnemy x = Check.with("wall 2 1;", "corks 3;");
        x.sign(0);
        x.months(1);
        Check.due("1: fear 10 more for a breach, 5 less a month", () -> x.sums(5), 25);
        Check.due("1: mason 1", () -> x.sums(0), 1000 + 4 - 1 - 30);
        Check.due("1: the town's", () -> x.sums(2), 5000 - 4 + 1 + 30);
        HiredEnemy near = Check.with("fear 20 0 0;", "near 0;", "near 1;", "near 2;", "near 3;", "near 4;", "near 8;");
        for (int i = 0; i < 6; i++) {
            int c = i;
            Check.due("1: 9 less R", () -> near.would(c, 1, 5), 20 + 9 - (i < 5 ? i : 8));
        }
    }

    /** One CLAUSE with its k-th number at the edges: low and high stand, high + 1 (and low - 1) does not. */
    private static void edge(boolean siege, String ahead, String behind, int low, int high) {
        for (int n : new int[] {low, high, high + 1, low - 1}) {
            if (n < 0) {
                continue;
            }
            HiredEnemy x = Check.with("wall 1 1;wall 2 2;");
            String text = ahead + n + behind;
            boolean fine = n >= low && n <= high;
            int got = siege ? Check.siege(x, text) : Check.contract(x, text);
            Check.same((siege ? "3: " : "4: ") + text, got < -1 ? got : 0, fine ? 0 : -8);
            Check.due("5: " + text, x::fault, fine ? -1 : ahead.length());
        }
    }

    private static void siegeRanges() {
        edge(true, "wall ", " 1;", 1, 99);
        edge(true, "wall 1 ", ";", 0, 50);
        for (String side : new String[] {"duke ", "enemy "}) {
            edge(true, side, " 1 1;", 0, 9999);
            edge(true, side + "1 ", " 1;", 0, 999);
            edge(true, side + "1 1 ", ";", 0, 9);
        }
        edge(true, "town ", " 1;", 0, 9999);
        edge(true, "town 1 ", ";", 0, 100);
        edge(true, "fear ", " 1 1;", 0, 100);
        edge(true, "fear 1 ", " 1;", 0, 50);
        edge(true, "fear 1 1 ", ";", 0, 50);
        edge(true, "near ", " 1;", 0, 9);
        edge(true, "near 1 ", ";", 0, 20);
        edge(true, "mason ", ";", 0, 9);
        edge(true, "cost ", " 1;", 0, 99);
        edge(true, "cost 1 ", ";", 0, 99);
    }

    private static void siegeCounts() {
        String six = "wall 1 1;".repeat(6);
        fault(six, 6, -1);
        fault(six + "wall 0 x", -7, 54);
        fault(six + " wall 1 1;", -7, 55);
        fault(six + "walls 1 1;", -9, 54);
        fault(six + "mason 2;", 6, -1);
        String sixty = "mason1;".repeat(60);
        fault(sixty, 0, -1);
        fault(sixty + "  ", 0, -1);
        fault(sixty + "mason1;", -7, 420);
        fault(sixty + "wall x;", -7, 420);
        fault(sixty + "masons;", -9, 420);
        fault(sixty + ";", -9, 420);
    }

    private static void siegeClears() {
        HiredEnemy x = Check.with("wall 9 9;duke 50 60 7;enemy 8 9 1;town 70 80;fear 33 4 5;near 3 17;mason 6;cost 7 8;", "pay 1;");
        x.sign(0);
        x.months(3);
        x.odds(3, 5);
        x.kind(1, 2, 3);
        x.seen(1);
        x.spy(true, 9);
        x.offers(1, 2, 30);
        x.image();
        Check.illegal("33", () -> x.told(9));
        Check.due("3: without clauses", () -> Check.siege(x, ""), 0);
        Check.same("3: as new", Check.state(x), Check.state(new HiredEnemy()));
        Check.due("3: no images", () -> x.count(0), 0);
        Check.due("3: nothing to restore", x::restore, -1);
        Check.due("3: nothing seen", () -> x.count(2), 0);
        Check.due("3: no offers", x::most, 0);
        Check.due("3: no contracts", () -> x.told(1), 0);
        Check.noContract("3: no contract", () -> x.rule(0, 0));
        Check.due("3: cost as without", () -> x.wants(0, 3), 53);
        Check.due("3: odds at first stay", () -> x.believed(0) * 10 + x.believed(1), 35);
        x.seen(1);
        Check.due("3: kinds stay", () -> x.believed(0) * 10 + x.believed(1), 25);
        Check.due("33: refusals stay", () -> x.status(2), 1);
        HiredEnemy used = Check.with("wall 1 0;wall 1 0;duke 500 0 0;", "pay 90;winter 99;near 3;corks 7;bonus 8;till 5;breach 0 0;breach 1 1;", "corks 9;bonus 5;winter 1;");
        used.sign(0);
        used.months(2);
        used.months(4);
        used.siege(0);
        Check.same("3: sums as new", Check.state(used), Check.state(new HiredEnemy()));
        Check.due("3: walls anew", () -> Check.siege(used, "wall 3 0;wall 4 0;"), 2);
        Check.due("3: no breaches of them", () -> used.wall(0, 3) + used.wall(1, 3), 0);
        used.contract(0);
        rules(used, 0, 0, 0, 9, 0, 0, 36, 0);
        Check.due("4: a fault", () -> Check.contract(used, "pay 9;corks 9;bonus 9;near 1;till 1;winter 2;breach 0 0;x"), -9);
        used.contract(0);
        rules(used, 1, 0, 0, 9, 0, 0, 36, 0);
        HiredEnemy last = Check.with("duke 1 1 1;near 2 5;near 2 7;duke 20 30 4;near 3 1;wall 3 0;", "near 2;", "near 3;", "near 4;");
        Check.due("1: of duke the last", () -> last.sums(0) * 100 + last.sums(3), 2030);
        last.sign(0);
        Check.due("1: of near 2 the last", () -> last.would(0, 1, 5), 22);
        Check.due("1: near 3", () -> last.would(1, 1, 5), 16);
        Check.due("1: near 4 without", () -> last.would(2, 1, 5), 20);
    }

    private static void contractFault(String text, int answer, int place) {
        HiredEnemy x = Check.with("wall 5 1;wall 6 0;", "pay 7;");
        Check.same("4: " + text, Check.contract(x, text), answer);
        Check.due("5: " + text, x::fault, place);
        Check.due("4: tape empty behind " + text, () -> x.count(1), 0);
        Check.due("4: contracts behind " + text, () -> x.told(1), answer < 0 ? 1 : 2);
        Check.due("4: the first stays behind " + text, () -> x.rule(0, 0), 7);
    }

    private static void contractTexts() {
        contractFault("", 1, -1);
        contractFault(" ", 1, -1);
        contractFault("pay1;winter2;near3;corks4;breach1 5;bonus6;till7;", 1, -1);
        contractFault(" pay 1 ; till 2 ; ", 1, -1);
        contractFault("pay", -9, 3);
        contractFault("pay 1", -9, 5);
        contractFault("pay 1 1;", -9, 6);
        contractFault("breach 1;", -9, 8);
        contractFault("breach 1 1 1;", -9, 11);
        contractFault("wall 1 1;", -9, 0);
        contractFault("mason 1;", -9, 0);
        contractFault("pay 1;\u0000", -9, 6);
        contractFault("breach 2 x;", -8, 7);
        contractFault("pay 5;pay 1000;x", -8, 10);
    }

    private static void contractRanges() {
        edge(false, "pay ", ";", 0, 999);
        edge(false, "winter ", ";", 0, 999);
        edge(false, "near ", ";", 0, 9);
        edge(false, "corks ", ";", 0, 99);
        edge(false, "breach ", " 1;", 0, 1);
        edge(false, "breach 1 ", ";", 0, 35);
        edge(false, "bonus ", ";", 0, 99);
        edge(false, "till ", ";", 1, 36);
    }

    private static void contractCounts() {
        String twenty = "pay 1;".repeat(20);
        contractFault(twenty, 1, -1);
        contractFault(twenty + "pay 1;", -7, 120);
        contractFault(twenty + "  till 0", -7, 122);
        contractFault(twenty + "  tills 0", -9, 122);
        HiredEnemy x = Check.with("wall 1 1;", "pay 1;", "pay 2;", "pay 3;", "pay 4;", "pay 5;", "pay 6;");
        Check.due("4: there are 6", () -> Check.contract(x, "pay 7;"), -1);
        Check.due("4: a faulty one", () -> Check.contract(x, "x"), -1);
        Check.due("5: not read", x::fault, -1);
        Check.due("4: tape", () -> x.count(1), 0);
        Check.due("4: still 6", () -> x.told(1), 6);
        Check.due("3: a fault", () -> Check.siege(x, "mason 1;x"), -9);
        Check.due("5: of the siege", x::fault, 8);
        Check.due("4: there are 6 still", () -> Check.contract(x, "pay 7;"), -1);
        Check.due("5: the latest text", x::fault, -1);
        Check.due("4: the last", () -> x.rule(5, 0), 6);
        Check.illegal("4: n goes first", () -> x.contract(1));
    }

    private static void asked() {
        HiredEnemy x = Check.with("wall 5 1;wall 6 2;", "", "corks 9;pay 3;near 2;winter 4;bonus 8;till 7;breach 0 1;breach 1 1;breach 1 35;pay 5;",
            "winter 0;pay 9;");
        rules(x, 0, 0, 0, 9, 0, 0, 36, 0);
        rules(x, 1, 5, 4, 2, 9, 8, 7, 2);
        rules(x, 2, 9, 0, 9, 0, 0, 36, 0);
        Check.illegal("8: what -1", () -> x.rule(0, -1));
        Check.illegal("8: what 7", () -> x.rule(0, 7));
        Check.noContract("8: 3", () -> x.rule(3, 0));
        Check.noContract("8: NONE", () -> x.rule(-1, 0));
        Check.noContract("8: both wrong", () -> x.rule(3, 7));
        HiredEnemy pay = Check.with("", "pay 6;");
        Check.due("8: winter without", () -> pay.rule(0, 1), 6);
        Check.due("6: walls", () -> x.told(0), 2);
        Check.due("6: contracts", () -> x.told(1), 3);
        Check.illegal("6: what -1", () -> x.told(-1));
        Check.illegal("6: what 5", () -> x.told(5));
        x.months(2);
        x.sign(1);
        Check.due("6: its month", () -> x.told(4), 0);
        x.months(3);
        Check.due("6: the month", () -> x.told(2), 5);
        Check.due("6: in force", () -> x.told(3), 1);
        Check.due("6: its month 3", () -> x.told(4), 3);
        Check.due("7: S", () -> x.wall(1, 0), 6);
        Check.due("7: H", () -> x.wall(1, 2), 2);
        Check.noWall("7: 2", () -> x.wall(2, 0));
        Check.noWall("7: -1", () -> x.wall(-1, 0));
        Check.noWall("7: both wrong", () -> x.wall(2, 4));
        Check.illegal("7: what -1", () -> x.wall(0, -1));
        Check.illegal("7: what 4", () -> x.wall(0, 4));
    }

    private static void rules(HiredEnemy x, int contract, int... want) {
        for (int i = 0; i < want.length; i++) {
            int what = i;
            Check.due("8: rule(" + contract + ", " + i + ")", () -> x.rule(contract, what), want[i]);
        }
    }

    private static void wants() {
        HiredEnemy x = Check.with("cost 7 3;");
        for (int r = 0; r <= 9; r++) {
            for (int corks = 0; corks <= 99; corks++) {
                int near = r;
                int shot = corks;
                Check.due("9: wants", () -> x.wants(near, shot), 7 + 3 * corks + 7 * (9 - r));
            }
        }
        Check.illegal("9: r -1", () -> x.wants(-1, 0));
        Check.illegal("9: r 10", () -> x.wants(10, 0));
        Check.illegal("9: corks -1", () -> x.wants(0, -1));
        Check.illegal("9: corks 100", () -> x.wants(0, 100));
        HiredEnemy dear = Check.with("cost 99 99;");
        Check.due("9: the most", () -> dear.wants(0, 99), 99 + 99 * 99 + 99 * 9);
    }
}
