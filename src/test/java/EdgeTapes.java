/** Sentences of promises 1 to 5: a new object, the TAPE, texts told and their FAULTS. */
final class EdgeTapes {
    private static final int BLANKS = 0x20202020;

    private EdgeTapes() {
    }

    static void run() {
        Sentence.says("A SIEGE without CLAUSES.", EdgeTapes::newObject);
        Sentence.says("Twenty bytes come on the TAPE, of each number the highest first: how many there are;", EdgeTapes::feed);
        Sentence.says("NONE, doing nothing, if there would be more than 500.", EdgeTapes::feedBeyond);
        Sentence.says("The first n bytes of the TAPE (empty then) are the SIEGE", EdgeTapes::firstBytes);
        Sentence.says("(MONTH 0; no CONTRACTS, SIGNS seen, OFFERS, IMAGES):", EdgeTapes::anew);
        Sentence.says("how many WALLS;", EdgeTapes::howManyWalls);
        Sentence.says("or the FAULT less 10 (all stays).", EdgeTapes::faultLess10);
        Sentence.says("IllegalArgumentException: n is not 0 to the TAPE's bytes (it stays).", EdgeTapes::notOnTheTape);
        Sentence.says("Likewise a CONTRACT (n to 200):", EdgeTapes::contract);
        Sentence.says("its number;", EdgeTapes::itsNumber);
        Sentence.says("-1: there are 6.", EdgeTapes::thereAreSix);
        Sentence.says("The place of the FAULT of the latest text; NONE without.", EdgeTapes::place);
    }

    private static void newObject() {
        HiredEnemy x = new HiredEnemy();
        HiredEnemy told = new HiredEnemy();
        told.siege(0);
        Check.same("as without CLAUSES", Check.whole(x), Check.whole(told));
        int[] sums = {1000, 0, 5000, 100, 100, 20, 0, 0, 0, 0};
        for (int i = 0; i < 10; i++) {
            int what = i;
            Check.due("sums(" + i + ")", () -> x.sums(what), sums[i]);
        }
        Check.due("no WALLS", () -> x.told(0), 0);
        Check.due("no CONTRACTS", () -> x.told(1), 0);
        Check.due("MONTH 0", () -> x.told(2), 0);
        Check.due("none in force", () -> x.told(3) + x.told(4), -2);
        Check.due("no refusals", () -> x.status(0) + x.status(1) + x.status(2), 0);
        Check.due("nothing on the TAPE, seen, kept", () -> x.count(0) + x.count(1) + x.count(2), 0);
        Check.due("nothing to undo", () -> x.undo(1), 0);
        Check.due("nothing to restore", x::restore, -1);
        x.months(60);
        told.months(60);
        Check.same("60 MONTHS on", Check.whole(x), Check.whole(told));
    }

    private static void feed() {
        HiredEnemy x = new HiredEnemy();
        // "wall", " 12 ", "34;m", "ason", " 6; "
        Check.due("20", () -> x.feed(0x77616c6c, 0x20313220, 0x33343b6d, 0x61736f6e, 0x20363b20), 20);
        Check.due("count", () -> x.count(1), 20);
        Check.due("as told", () -> x.siege(20), 1);
        Check.due("S, H", () -> x.wall(0, 0) * 100 + x.wall(0, 2), 1234);
        for (int i = 1; i <= 25; i++) {
            int bytes = 20 * i;
            Check.due("how many", () -> x.feed(-bytes, 1, 2, 3, 4), bytes);
            Check.due("count", () -> x.count(1), bytes);
        }
        HiredEnemy high = new HiredEnemy();
        high.feed(0xf7616c6c, 0x20312031, 0x3b202020, BLANKS, BLANKS);
        Check.due("the highest bit counts", () -> high.siege(20), -9);
        HiredEnemy least = new HiredEnemy();
        least.feed(BLANKS, BLANKS, BLANKS, BLANKS, 0x2020203b);
        Check.due("the lowest byte is the last", () -> least.siege(20), -9);
        Check.due("at 19", least::fault, 19);
        HiredEnemy each = new HiredEnemy();
        Check.feed(each, "                    wall 1 1;");
        Check.due("the second twenty behind the first", () -> each.siege(29), 1);
    }


    private static void feedBeyond() {
        HiredEnemy x = new HiredEnemy();
        Check.feed(x, " ".repeat(480) + "wall 7 3;           ");
        Check.due("500", () -> x.count(1), 500);
        String before = Check.whole(x);
        Check.due("520", () -> x.feed(1, 2, 3, 4, 5), -1);
        Check.due("once more", () -> x.feed(-1, -1, -1, -1, -1), -1);
        Check.same("nothing is done", Check.whole(x), before);
        Check.due("nor counted as a refusal", () -> x.status(0) + x.status(1) + x.status(2), 0);
        Check.due("the TAPE is what it was", () -> x.siege(500), 1);
        Check.due("S, H", () -> x.wall(0, 0) * 10 + x.wall(0, 2), 73);
        Check.due("there is room again", () -> x.feed(1, 2, 3, 4, 5), 20);
    }

    private static void firstBytes() {
        HiredEnemy x = new HiredEnemy();
        Check.feed(x, "wall 7 3;wall 8 4;");
        Check.due("9 of 20", () -> x.siege(9), 1);
        Check.due("the rest is gone", () -> x.count(1), 0);
        Check.refusedArgument("nothing is left", x, () -> x.siege(9));
        Check.due("0 of 0", () -> x.siege(0), 0);
        Check.feed(x, "wall 7 3;wall 8 4;  ");
        Check.due("0 of 20", () -> x.siege(0), 0);
        Check.due("empty behind 0 of 20", () -> x.count(1), 0);
        Check.feed(x, "wall 7 3;wall 8 4;  ");
        Check.due("20 of 20", () -> x.siege(20), 2);
        Check.feed(x, "wall 7 3;wall 8 4;  ");
        Check.due("18 of 20", () -> x.siege(18), 2);
        Check.feed(x, "x");
        Check.due("a FAULT", () -> x.siege(1), -9);
        Check.due("empty behind a FAULT", () -> x.count(1), 0);
        Check.due("told behind a FAULT", () -> Check.siege(x, "wall 1 1;"), 1);
    }

    private static void anew() {
        HiredEnemy x = Check.with("wall 9 1;duke 90 80 7;", "pay 2;winter 3;corks 20;near 0;bonus 1;till 30;breach 0 9;", "pay 91;");
        x.sign(0);
        x.months(3);
        x.sign(1);
        x.months(2);
        x.seen(0);
        x.spy(true, 9);
        x.offers(1, 0, 5);
        x.offers(2, 11, 5);
        x.image();
        x.image();
        Check.due("told anew", () -> Check.siege(x, "wall 9 1;duke 90 80 7;"), 1);
        Check.same("as a new object with it", Check.whole(x), Check.whole(Check.with("wall 9 1;duke 90 80 7;")));
        Check.due("MONTH 0", () -> x.told(2), 0);
        Check.due("nothing to undo", () -> x.undo(120), 0);
        Check.due("no CONTRACTS", () -> x.told(1), 0);
        Check.refused("no CONTRACTS", x, "NoSuchElementException", () -> x.sign(0));
        Check.due("none in force", () -> x.told(3), -1);
        Check.due("no SIGNS seen", () -> x.count(2), 0);
        Check.due("odds as at first", () -> x.believed(0) * 10 + x.believed(1), 11);
        Check.due("no OFFERS", () -> x.offers(1, 0, 0) + x.offers(2, 11, 0), 0);
        Check.due("no IMAGES", () -> x.count(0), 0);
        Check.due("nothing to restore", x::restore, -1);
        Check.due("the first CONTRACT again", () -> Check.contract(x, ""), 0);
        int[] rules = {0, 0, 9, 0, 0, 36, 0};
        for (int i = 0; i < 7; i++) {
            int what = i;
            Check.due("nothing of the one before, rule " + i, () -> x.rule(0, what), rules[i]);
        }
        for (int i = 1; i <= 3; i++) {
            int images = i;
            Check.due("3 IMAGES again", x::image, images);
        }
    }

    private static void howManyWalls() {
        for (int walls = 0; walls <= 6; walls++) {
            HiredEnemy x = new HiredEnemy();
            int many = walls;
            Check.due("WALLS", () -> Check.siege(x, "mason 1;" + "wall 2 2;".repeat(many) + "duke 1 1 1;"), walls);
            Check.due("told", () -> x.told(0), walls);
        }
    }

    private static void faultLess10() {
        HiredEnemy x = Check.with("wall 9 1;wall 4 2;duke 90 80 7;cost 4 3;near 9 5;", "pay 2;corks 20;near 0;bonus 1;", "pay 5;");
        x.sign(0);
        x.months(3);
        x.seen(0);
        x.offers(1, 0, 5);
        x.image();
        x.months(1);
        String before = Check.state(x);
        Check.due("1", () -> Check.siege(x, "wall 1 1;duke 1 2 3;cost 1 1;near 0 20;x"), -9);
        Check.due("2", () -> Check.siege(x, "wall 1 1;duke 1 2 3;cost 1 1;near 0 20;mason 10;"), -8);
        Check.due("3", () -> Check.siege(x, "duke 1 2 3;cost 1 1;near 0 20;" + "wall 1 1;".repeat(7)), -7);
        Check.same("all stays", Check.state(x), before);
        Check.due("cost", () -> x.wants(8, 1), 11);
        Check.due("offers", () -> x.serves(0), 1);
        Check.due("things seen", () -> x.count(2), 1);
        Check.due("images", () -> x.count(0), 1);
        Check.due("CONTRACTS", () -> x.rule(1, 0), 5);
        HiredEnemy other = Check.with("wall 9 1;wall 4 2;duke 90 80 7;cost 4 3;near 9 5;", "pay 2;corks 20;near 0;bonus 1;", "pay 5;");
        other.sign(0);
        other.months(10);
        x.months(6);
        Check.same("what comes stays", Check.state(x), Check.state(other));
        x.undo(10);
        other.undo(10);
        Check.same("what can be undone stays", Check.state(x), Check.state(other));
    }

    private static void notOnTheTape() {
        HiredEnemy x = Check.with("wall 9 1;", "pay 2;");
        Check.refusedArgument("1 of 0", x, () -> x.siege(1));
        Check.feed(x, "wall 7 3;wall 8 4;  wall 6 5;");
        Check.outside("n of 40", x, 0, 40, n -> x.siege((int) n));
        Check.due("it stays", () -> x.count(1), 40);
        Check.due("as it was", () -> x.siege(29), 3);
        Check.due("WALL 2", () -> x.wall(2, 0) * 10 + x.wall(2, 2), 65);
    }

    private static void contract() {
        HiredEnemy x = Check.with("wall 9 1;");
        Check.refusedArgument("1 of 0", x, () -> x.contract(1));
        Check.feed(x, "pay 7;corks 8;" + " ".repeat(200) + "x");
        Check.outside("n of 220", x, 0, 200, n -> x.contract((int) n));
        Check.refusedArgument("220 of 220", x, () -> x.contract(220));
        Check.due("it stays", () -> x.count(1), 220);
        Check.due("200 of 220", () -> x.contract(200), 0);
        Check.due("empty then", () -> x.count(1), 0);
        Check.due("as told", () -> x.rule(0, 0) * 10 + x.rule(0, 3), 78);
        Check.feed(x, "pay 7;corks 8;");
        Check.outside("n of 20", x, 0, 20, n -> x.contract((int) n));
        Check.due("the first 6", () -> x.contract(6), 1);
        Check.due("no corks", () -> x.rule(1, 3), 0);
        Check.due("0 of 0", () -> x.contract(0), 2);
        Check.feed(x, "pay 7;");
        Check.due("0 of 20", () -> x.contract(0), 3);
        Check.due("empty behind 0 of 20", () -> x.count(1), 0);
        Check.due("1", () -> Check.contract(x, "pay 1;x"), -9);
        Check.due("2", () -> Check.contract(x, "pay 1000;"), -8);
        Check.due("3", () -> Check.contract(x, "pay 1;".repeat(21)), -7);
        Check.due("empty behind a FAULT", () -> x.count(1), 0);
        Check.due("all stays", () -> x.told(1), 4);
        x.sign(0);
        x.months(3);
        x.image();
        x.seen(0);
        x.offers(1, 0, 5);
        String before = Check.state(x).substring(4);
        Check.due("told later", () -> Check.contract(x, "pay 3;"), 4);
        Check.same("the MONTH and all that goes on stay", Check.state(x).substring(4), before);
        Check.due("IMAGES, SIGNS, OFFERS stay", () -> x.count(0) * 100 + x.count(2) * 10 + x.most(), 115);
    }

    private static void itsNumber() {
        HiredEnemy x = Check.with("wall 9 1;");
        for (int i = 0; i < 6; i++) {
            int number = i;
            Check.due("a FAULT takes no number", () -> Check.contract(x, "pay 5;x"), -9);
            Check.due("number", () -> Check.contract(x, "pay " + number + ";"), number);
        }
    }

    private static void thereAreSix() {
        HiredEnemy x = Check.with("wall 9 1;", "pay 1;", "pay 2;", "pay 3;", "pay 4;", "pay 5;", "pay 6;");
        x.sign(5);
        x.months(2);
        String before = Check.whole(x);
        Check.due("a good one", () -> Check.contract(x, "pay 7;"), -1);
        Check.due("one with a FAULT", () -> Check.contract(x, "x"), -1);
        Check.due("an empty one", () -> x.contract(0), -1);
        Check.same("all stays", Check.whole(x), before);
        Check.refusedArgument("n is looked at all the same", x, () -> x.contract(1));
        Check.due("no 7th was tried by best()", () -> x.best(1, 0), -1);
        x.siege(0);
        Check.due("there is room again", () -> Check.contract(x, "pay 8;"), 0);
    }

    private static void place() {
        HiredEnemy x = new HiredEnemy();
        Check.due("no text", x::fault, -1);
        Check.siege(x, "wall 1 1;   wall 100 1;");
        Check.due("of a SIEGE", x::fault, 17);
        Check.refusedArgument("a text that is refused is none", x, () -> x.siege(1));
        Check.refusedArgument("nor is a CONTRACT", x, () -> x.contract(1));
        Check.due("so it stays", x::fault, 17);
        x.feed(0, 0, 0, 0, 0);
        x.months(1);
        x.image();
        x.restore();
        Check.due("and by other calls", x::fault, 17);
        Check.due("an empty CONTRACT", () -> x.contract(0), 0);
        Check.due("NONE without", x::fault, -1);
        Check.contract(x, "pay 1;  pay");
        Check.due("of a CONTRACT", x::fault, 11);
        Check.siege(x, "wall 1 1;");
        Check.due("NONE by a SIEGE", x::fault, -1);
        Check.siege(x, "x");
        Check.due("at 0", x::fault, 0);
        Check.contract(x, "pay 1;");
        Check.due("NONE by a CONTRACT", x::fault, -1);
        Check.siege(x, " ".repeat(499) + "x");
        Check.due("at 499", x::fault, 499);
        Check.siege(x, "mason 1" + " ".repeat(493));
        Check.due("at 500", x::fault, 500);
        HiredEnemy full = Check.with("", "", "", "", "", "", "");
        Check.siege(full, "x");
        Check.due("of the SIEGE", full::fault, 0);
        Check.contract(full, "x");
        Check.due("a 7th CONTRACT is not read: NONE", full::fault, -1);
    }
}
