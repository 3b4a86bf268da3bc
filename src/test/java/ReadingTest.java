import java.math.BigInteger;
import java.util.ArrayList;
import java.util.HashMap;
import java.util.List;
import java.util.Map;
import java.util.Random;
import java.util.TreeSet;
import java.util.regex.Matcher;
import java.util.regex.Pattern;

/** Both texts read a second time, by tokens: texts made up at random and then spoilt. */
public final class ReadingTest {
    private static final Pattern TOKEN = Pattern.compile(" *([a-z]+|[0-9]+|[^ ])", Pattern.DOTALL);
    private static final String[] SIEGE_WORDS = {"wall", "duke", "enemy", "town", "fear", "near", "mason", "cost"};
    private static final int[][][] SIEGE_LIMITS = {
        {{1, 99}, {0, 50}}, {{0, 9999}, {0, 999}, {0, 9}}, {{0, 9999}, {0, 999}, {0, 9}}, {{0, 9999}, {0, 100}},
        {{0, 100}, {0, 50}, {0, 50}}, {{0, 9}, {0, 20}}, {{0, 9}}, {{0, 99}, {0, 99}}
    };
    private static final String[] CONTRACT_WORDS = {"pay", "winter", "near", "corks", "bonus", "till", "breach"};
    private static final int[][][] CONTRACT_LIMITS = {
        {{0, 999}}, {{0, 999}}, {{0, 9}}, {{0, 99}}, {{0, 99}}, {{1, 36}}, {{0, -1}, {0, 35}}
    };

    /** A text as it was read: its FAULT (0: none), the place, and what its parts said. */
    static final class Read {
        int fault;
        int place = -1;
        final List<String> words = new ArrayList<>();
        final List<int[]> numbers = new ArrayList<>();
        private final Map<String, List<int[]>> byWord = new HashMap<>();

        boolean fail(int what, int where) {
            fault = what;
            place = where;
            return false;
        }

        void add(String word, int... said) {
            words.add(word);
            numbers.add(said);
            byWord.computeIfAbsent(word, w -> new ArrayList<>()).add(said);
        }

        /** What was said behind this word, from the left. */
        List<int[]> all(String word) {
            return byWord.getOrDefault(word, List.of());
        }

        int[] last(String word, int... without) {
            List<int[]> all = all(word);
            return all.isEmpty() ? without : all.get(all.size() - 1);
        }
    }

    static Read readSiege(String text) {
        return read(text, SIEGE_WORDS, SIEGE_LIMITS, 60, 0);
    }

    static Read readContract(String text, int walls) {
        return read(text, CONTRACT_WORDS, CONTRACT_LIMITS, 20, walls);
    }

    /** A CONTRACT as offer() tries it. */
    static Read proposed(int pay, int r, int corks, int till) {
        Read read = new Read();
        read.add("pay", pay);
        read.add("near", r);
        read.add("corks", corks);
        read.add("till", till);
        return read;
    }

    public static void main(String[] args) {
        Random random = new Random(5);
        for (int run = 0; run < 30000; run++) {
            siege(spoil(made(random, SIEGE_WORDS, SIEGE_LIMITS, random.nextInt(9) == 0 ? 64 : 9), random, 500));
        }
        for (int run = 0; run < 30000; run++) {
            contract(spoil(made(random, CONTRACT_WORDS, CONTRACT_LIMITS, random.nextInt(9) == 0 ? 23 : 9), random, 200), random.nextInt(7));
        }
        Check.end("ReadingTest");
    }

    private static String made(Random random, String[] words, int[][][] limits, int most) {
        StringBuilder text = new StringBuilder();
        for (int i = random.nextInt(most); i > 0; i--) {
            int kind = most > 20 && random.nextInt(4) > 0 ? words.length - 2 : random.nextInt(words.length);
            text.append(blanks(random)).append(words[kind]);
            for (int[] limit : limits[kind]) {
                int high = limit[1] < 0 ? 5 : limit[1];
                int n = random.nextInt(20) == 0 ? high + 1 : limit[0] + random.nextInt(high - limit[0] + 1);
                text.append(random.nextInt(9) == 0 ? "" : " ").append(blanks(random)).append(random.nextInt(20) == 0 ? "00" : "").append(n);
            }
            text.append(blanks(random)).append(';');
        }
        return text + blanks(random);
    }

    private static String blanks(Random random) {
        return random.nextInt(10) == 0 ? " ".repeat(random.nextInt(3)) : "";
    }

    /** Some signs are put out, in, or changed; half of the texts stay as they are. */
    private static String spoil(String text, Random random, int most) {
        StringBuilder spoilt = new StringBuilder(text);
        for (int i = random.nextBoolean() ? 0 : random.nextInt(3); i > 0 && spoilt.length() > 0; i--) {
            int at = random.nextInt(spoilt.length());
            char sign = random.nextBoolean() ? " ;0123456789abcwny".charAt(random.nextInt(18)) : (char) random.nextInt(256);
            switch (random.nextInt(4)) {
                case 0 -> spoilt.deleteCharAt(at);
                case 1 -> spoilt.insert(at, sign);
                case 2 -> spoilt.setCharAt(at, sign);
                default -> spoilt.setLength(at);
            }
        }
        spoilt.setLength(Math.min(spoilt.length(), most));
        return spoilt.toString();
    }

    private static Read read(String text, String[] words, int[][][] limits, int most, int walls) {
        List<String> tokens = new ArrayList<>();
        List<Integer> places = new ArrayList<>();
        Matcher matcher = TOKEN.matcher(text);
        while (matcher.find()) {
            tokens.add(matcher.group(1));
            places.add(matcher.start(1));
        }
        tokens.add("");
        places.add(text.length());
        Read read = new Read();
        int at = 0;
        while (at < tokens.size() - 1 && part(read, tokens, places, at, words, limits, most, walls)) {
            at += read.numbers.get(read.numbers.size() - 1).length + 2;
        }
        return read;
    }

    private static boolean part(Read read, List<String> tokens, List<Integer> places, int at, String[] words, int[][][] limits, int most,
        int walls) {
        int kind = List.of(words).indexOf(tokens.get(at));
        if (kind < 0) {
            return read.fail(1, places.get(at));
        }
        boolean seventh = words[kind].equals("wall") && read.words.stream().filter("wall"::equals).count() == 6;
        if (read.words.size() == most || seventh) {
            return read.fail(3, places.get(at));
        }
        int[] numbers = new int[limits[kind].length];
        for (int i = 0; i < numbers.length; i++) {
            String token = tokens.get(at + 1 + i);
            int place = places.get(at + 1 + i);
            if (!token.matches("[0-9]+")) {
                return read.fail(1, place);
            }
            BigInteger n = new BigInteger(token);
            int high = limits[kind][i][1] < 0 ? walls - 1 : limits[kind][i][1];
            if (n.compareTo(BigInteger.valueOf(limits[kind][i][0])) < 0 || n.compareTo(BigInteger.valueOf(high)) > 0) {
                return read.fail(2, place);
            }
            numbers[i] = n.intValue();
        }
        if (!tokens.get(at + 1 + numbers.length).equals(";")) {
            return read.fail(1, places.get(at + 1 + numbers.length));
        }
        read.add(words[kind], numbers);
        return true;
    }

    private static void siege(String text) {
        Read due = readSiege(text);
        HiredEnemy x = new HiredEnemy();
        int got = Check.siege(x, text);
        Check.same("3: " + text, got < 0 ? got + 10 : 0, due.fault);
        Check.due("5: " + text, x::fault, due.place);
        if (due.fault == 0 && got >= 0) {
            siegeTold(text, due, x);
        }
    }

    private static void siegeTold(String text, Read due, HiredEnemy x) {
        Map<String, int[]> last = new HashMap<>(Map.of("duke", new int[] {1000, 100, 3}, "enemy", new int[] {0, 100, 5},
            "town", new int[] {5000, 20}, "fear", new int[] {20, 10, 5}, "mason", new int[] {1}, "cost", new int[] {5, 1}));
        int walls = 0;
        for (int i = 0; i < due.words.size(); i++) {
            last.put(due.words.get(i), due.numbers.get(i));
            if (due.words.get(i).equals("wall")) {
                int wall = walls;
                walls++;
                Check.due("7: S in " + text, () -> x.wall(wall, 0), due.numbers.get(i)[0]);
                Check.due("7: left in " + text, () -> x.wall(wall, 1), due.numbers.get(i)[0]);
                Check.due("7: H in " + text, () -> x.wall(wall, 2), due.numbers.get(i)[1]);
            }
        }
        Check.due("6: walls in " + text, () -> x.told(0), walls);
        Check.due("13: duke in " + text, () -> x.sums(0) * 1000L + x.sums(3), last.get("duke")[0] * 1000L + last.get("duke")[1]);
        Check.due("13: enemy in " + text, () -> x.sums(1) * 1000L + x.sums(4), last.get("enemy")[0] * 1000L + last.get("enemy")[1]);
        Check.due("13: town in " + text, () -> x.sums(2), last.get("town")[0]);
        Check.due("13: fear in " + text, () -> x.sums(5), last.get("fear")[0]);
        Check.due("9: cost in " + text, () -> x.wants(4, 7), last.get("cost")[0] * 6 + last.get("cost")[1] * 7);
    }

    private static void contract(String text, int walls) {
        Read due = readContract(text, walls);
        HiredEnemy x = Check.with("wall 9 9;".repeat(walls));
        int got = Check.contract(x, text);
        Check.same("4: " + text, got < 0 ? got + 10 : got, due.fault);
        Check.due("5: " + text, x::fault, due.place);
        if (due.fault != 0 || got != 0) {
            return;
        }
        int[] rules = {0, -1, 9, 0, 0, 36, 0};
        TreeSet<Integer> months = new TreeSet<>();
        for (int i = 0; i < due.words.size(); i++) {
            int kind = List.of(CONTRACT_WORDS).indexOf(due.words.get(i));
            rules[kind] = due.numbers.get(i)[0];
            if (kind == 6) {
                months.add(due.numbers.get(i)[1]);
            }
        }
        rules[1] = rules[1] < 0 ? rules[0] : rules[1];
        rules[6] = months.size();
        for (int i = 0; i < 7; i++) {
            int what = i;
            Check.due("8: rule " + i + " in " + text, () -> x.rule(0, what), rules[i]);
        }
    }
}
