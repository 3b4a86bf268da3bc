/** Sentences of the Terms: numbers, WORDS, blanks and FAULTS, of both texts. */
final class EdgeFaults {
    private EdgeFaults() {
    }

    static void run() {
        Sentence.says("Numbers: digits, as many as stand there;", EdgeFaults::numbers);
        Sentence.says("WORDS: small letters, as many as stand there;", EdgeFaults::words);
        Sentence.says("blanks (32) may stand ahead of all these,", EdgeFaults::blanks);
        Sentence.says("and at the end.", EdgeFaults::blanksAtTheEnd);
        Sentence.says("FAULTS, the first from the left, at its first byte:", EdgeFaults::firstFromTheLeft);
        Sentence.says("1 what can't stand there", EdgeFaults::cannotStand);
        Sentence.says("(at the length, if the text ends too early);", EdgeFaults::endsTooEarly);
        Sentence.says("2 a number that is none such;", EdgeFaults::noneSuch);
        Sentence.says("3 a CLAUSE, WALL or RULE too many (at its word);", EdgeFaults::tooMany);
        Sentence.says("of one the least.", EdgeFaults::theLeast);
    }

    private static void siege(String text, int answer, int place) {
        if (answer < 0) {
            EdgeSieges.wrong(text, answer + 10, place);
            return;
        }
        HiredEnemy x = new HiredEnemy();
        Check.same("siege: " + text, Check.siege(x, text), answer);
        Check.due("no fault in: " + text, x::fault, place);
    }

    private static void contract(String text, int answer, int place) {
        if (answer < 0) {
            EdgeContracts.wrong(text, answer + 10, place);
            return;
        }
        HiredEnemy x = Check.with("wall 1 1;");
        Check.same("contract: " + text, Check.contract(x, text), answer);
        Check.due("no fault in: " + text, x::fault, place);
    }

    private static void numbers() {
        HiredEnemy x = Check.with("wall 07 0;wall " + "0".repeat(200) + "42 00050;", "pay 000;pay " + "0".repeat(150) + "999;");
        Check.due("leading zeros", () -> x.wall(0, 0) * 10000 + x.wall(1, 0) * 100 + x.wall(1, 2), 7 * 10000 + 42 * 100 + 50);
        Check.due("leading zeros of a CONTRACT", () -> x.rule(0, 0), 999);
        siege("wall 11;", -9, 7);
        siege("wall 1 100000000000000000000000000000000000000000;", -8, 7);
        siege("wall " + "9".repeat(480) + " 1;", -8, 5);
        siege("wall " + "9".repeat(495), -8, 5);
        siege("wall -1 1;", -9, 5);
        siege("wall +1 1;", -9, 5);
        siege("wall 1.0 1;", -9, 6);
        siege("wall 0x1 1;", -8, 5);
        siege("wall 1x 1;", -9, 6);
        contract("pay " + "9".repeat(195) + ";", -8, 4);
        contract("pay 4294967295;", -8, 4);
        contract("pay 2147483648;", -8, 4);
        contract("pay 9223372036854775808;", -8, 4);
    }

    private static void words() {
        siege("wallwall 1 1;", -9, 0);
        siege("wal 1 1;", -9, 0);
        siege("w 1 1;", -9, 0);
        siege("walll 1 1;", -9, 0);
        siege("wal", -9, 0);
        siege("Wall 1 1;", -9, 0);
        siege("walL 1 1;", -9, 0);
        siege("wall1 1;", 1, -1);
        siege("wallz1 1;", -9, 0);
        siege("a 1;", -9, 0);
        siege("z 1;", -9, 0);
        siege("pay 1;", -9, 0);
        siege("winter 1;", -9, 0);
        contract("nearcorks 1;", -9, 0);
        contract("tillx 1;", -9, 0);
        contract("til 1;", -9, 0);
        contract("wall 1 1;", -9, 0);
        contract("cost 1 1;", -9, 0);
        contract("pay1;till2;near3;corks4;bonus5;winter6;breach0 7;", 0, -1);
        for (String word : new String[] {"wall", "duke", "enemy", "town", "fear", "near", "mason", "cost"}) {
            siege(word, -9, word.length());
            siege(word + "a", -9, 0);
            siege(word.substring(1), -9, 0);
        }
        for (String word : new String[] {"pay", "winter", "near", "corks", "breach", "bonus", "till"}) {
            contract(word, -9, word.length());
            contract(word + "a", -9, 0);
            contract(word.substring(1), -9, 0);
        }
    }

    private static void blanks() {
        siege("   wall   7   3   ;   wall   8   4   ;", 2, -1);
        siege("wa ll 1 1;", -9, 0);
        siege("wall 1 1 1;", -9, 9);
        contract("  breach  0  3  ;  pay  7  ;", 0, -1);
        HiredEnemy x = new HiredEnemy();
        Check.siege(x, " wall 7 3;");
        Check.due("a blank in a number parts it", () -> x.wall(0, 0) * 10 + x.wall(0, 2), 73);
        for (int sign = 0; sign < 256; sign++) {
            if (sign != 32 && sign != ';' && (sign < '0' || sign > '9') && (sign < 'a' || sign > 'z')) {
                String other = String.valueOf((char) sign);
                siege(other + "mason 1;", -9, 0);
                siege("mason" + other + "1;", -9, 5);
                siege("mason 1" + other + ";", -9, 7);
            }
        }
    }

    private static void blanksAtTheEnd() {
        siege("wall 1 1; ", 1, -1);
        siege("wall 1 1;" + " ".repeat(491), 1, -1);
        siege(" ".repeat(500), 0, -1);
        contract("pay 1; ", 0, -1);
        contract("pay 1;" + " ".repeat(194), 0, -1);
        contract(" ".repeat(200), 0, -1);
        siege("wall 1 1; x", -9, 10);
        siege("wall 1 1;\u0000", -9, 9);
        contract("pay 1; ;", -9, 7);
    }

    private static void firstFromTheLeft() {
        siege("mason 10;x;" + "wall 1 1;".repeat(7), -8, 6);
        siege("x;mason 10;", -9, 0);
        siege("wall 1 1;".repeat(7) + "mason 10;x", -7, 54);
        siege("wall   100   51;", -8, 7);
        siege("wall 1   51;", -8, 9);
        siege("wall 100 x;", -8, 5);
        siege("wall 100", -8, 5);
        siege("wall x 100;", -9, 5);
        siege("mason 1;   xyz 1;", -9, 11);
        siege("duke 1 1000 10;", -8, 7);
        contract("till 0;x;", -8, 5);
        contract("x;till 0;", -9, 0);
        contract("breach 2 36;", -8, 7);
        contract("breach 1   36;", -8, 11);
        contract("pay 1;".repeat(20) + "till 0;x", -7, 120);
    }

    /** Each byte at the places where a WORD, a number and a ";" are due. */
    private static void cannotStand() {
        for (int sign = 0; sign < 256; sign++) {
            String one = String.valueOf((char) sign);
            boolean digit = sign >= '0' && sign <= '9';
            boolean blank = sign == 32;
            siege(one, blank ? 0 : -9, blank ? -1 : 0);
            siege("mason 1;" + one, blank ? 0 : -9, blank ? -1 : 8);
            siege("mason " + one + ";", digit ? 0 : -9, digit ? -1 : blank ? 7 : 6);
            siege("mason 1" + one, sign == ';' ? 0 : digit ? -8 : -9, sign == ';' ? -1 : digit ? 6 : blank ? 8 : 7);
            contract(one, blank ? 0 : -9, blank ? -1 : 0);
            contract("near " + one + ";", digit ? 0 : -9, digit ? -1 : blank ? 6 : 5);
            contract("near 1" + one, sign == ';' ? 0 : digit ? -8 : -9, sign == ';' ? -1 : digit ? 5 : blank ? 7 : 6);
        }
        siege("wall 1;", -9, 6);
        siege("wall;", -9, 4);
        siege("duke 1 1;", -9, 8);
        siege("mason 1 1;", -9, 8);
        contract("breach 1;", -9, 8);
        contract("pay 1 1;", -9, 6);
    }

    private static void endsTooEarly() {
        String text = "duke  12 34 5 ;";
        for (int n = 4; n < text.length(); n++) {
            siege(text.substring(0, n), -9, n);
        }
        String rule = "breach  0 12 ;";
        for (int n = 6; n < rule.length(); n++) {
            contract(rule.substring(0, n), -9, n);
        }
        HiredEnemy x = new HiredEnemy();
        Check.feed(x, "wall 12 34;");
        Check.due("what stands behind it is not of it", () -> x.siege(9), -9);
        Check.due("at the length, not at the tape's end", x::fault, 9);
        siege("wall 1 1;mason", -9, 14);
        siege("wall 1 1;  mason  ", -9, 18);
    }

    private static void noneSuch() {
        siege("wall 0 0;", -8, 5);
        siege("wall 00 0;", -8, 5);
        siege("wall 99 50;", 1, -1);
        siege("wall 100 50;", -8, 5);
        siege("wall 99 51;", -8, 8);
        siege("wall 1 1;near 10 0;", -8, 14);
        siege("near 9 21;", -8, 7);
        contract("till 0;", -8, 5);
        contract("till 00;", -8, 5);
        contract("till 37;", -8, 5);
        contract("breach 0 36;", -8, 9);
        contract("breach 2 0;", -8, 7);
    }

    private static void tooMany() {
        String sixty = "mason1;".repeat(60);
        siege(sixty, 0, -1);
        siege(sixty + "mason1;", -7, 420);
        siege(sixty + "   mason1;", -7, 423);
        siege(sixty + "mason", -7, 420);
        siege(sixty + "mason 10;", -7, 420);
        String six = "wall1 1;".repeat(6);
        siege(six, 6, -1);
        siege(six + "wall1 1;", -7, 48);
        siege(six + "   wall1 1;", -7, 51);
        siege(six + "wall", -7, 48);
        siege(six + "wall 0;", -7, 48);
        siege(six + "duke1 1 1;", 6, -1);
        String twenty = "pay1;".repeat(20);
        contract(twenty, 0, -1);
        contract(twenty + "pay1;", -7, 100);
        contract(twenty + "   pay1;", -7, 103);
        contract(twenty + "breach", -7, 100);
        contract(twenty + "till 0;", -7, 100);
    }

    private static void theLeast() {
        siege("mason1;".repeat(60) + "masons1;", -9, 420);
        siege("mason1;".repeat(60) + "x", -9, 420);
        siege("mason1;".repeat(60) + ";", -9, 420);
        siege("mason1;".repeat(60) + "1;", -9, 420);
        siege("wall1 1;".repeat(6) + "walls 1 1;", -9, 48);
        contract("pay1;".repeat(20) + "pays1;", -9, 100);
        contract("pay1;".repeat(20) + ";", -9, 100);
        contract("pay1;".repeat(20) + "wall 1 1;", -9, 100);
    }
}
