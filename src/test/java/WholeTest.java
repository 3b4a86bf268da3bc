import java.lang.reflect.InvocationTargetException;
import java.lang.reflect.Method;
import java.util.ArrayList;
import java.util.Arrays;
import java.util.List;
import java.util.Random;
import java.util.TreeSet;
import java.util.stream.Collectors;

/** Promises 1 to 34 together: runs of 512 calls made up at random, each answer compared with that of Model. */
public final class WholeTest {
    private static final int CALLS = 512;
    private static final int RUNS = 400;
    private static final String[] FAR = {"-2147483648", "2147483647", "-1", "65536", "256"};
    /** How often each call comes, and of each of its arguments the least and the most that is taken; w, c, m: the last WALL, CONTRACT, MONTH. */
    private static final String[] CALLS_MADE = {
        "1 feed", "1 siege 0 60", "1 contract 0 60", "3 fault", "6 told 0 4", "6 wall 0 w 0 3", "5 rule 0 c 0 6", "2 wants 0 9 0 99",
        "9 sign -1 c", "12 months 1 7", "1 months 1 120", "4 undo 1 8", "1 undo 1 120", "14 sums 0 9", "8 corks 0 m 0 w", "1 corks 0 119 0 w", "5 would -1 c 1 60 0 9", "4 best 1 60 0 1",
        "1 offer 1 60 0 3", "2 nearest 0 300 0 99", "2 stop 1 60 0 1", "1 odds 1 99 1 99", "2 kind 0 3 1 16 1 16", "4 seen 0 3",
        "3 spy 0 1 1 15", "4 believed 0 1", "1 earnest 0 6 0 6 0 1", "1 stands 0 6 0 6", "1 show 0 6 0 6", "6 offers 1 2 0 11 0 999",
        "1 most", "2 serves 0 11", "3 image", "3 restore", "3 status -1 3", "4 count -1 3"
    };
    private static final String SIEGE = "wall 1 99 0 50|duke 0 9999 0 999 0 9|enemy 0 9999 0 999 0 9|town 0 9999 0 100|fear 0 100 0 50 0 50"
        + "|near 0 9 0 20|mason 0 9|cost 0 99 0 99|wall 1 99 0 50|wall 1 99 0 50";
    private static final String CONTRACT = "pay 0 999|winter 0 999|near 0 9|corks 0 99|bonus 0 99|till 1 36|breach 0 w 0 35|corks 0 99|breach 0 w 0 35";

    private final Random random;
    private final HiredEnemy made = new HiredEnemy();
    private final Model due = new Model();
    private final List<String> told = new ArrayList<>();
    private boolean wrong;

    private WholeTest(int seed) {
        random = new Random(seed);
    }

    public static void main(String[] args) {
        Check.same("calls made up: all of the face", namesMade(), namesOfTheFace());
        for (int seed = 1; seed <= RUNS; seed++) {
            new WholeTest(seed).run();
        }
        Check.end("WholeTest");
    }

    private static String namesMade() {
        return Arrays.stream(CALLS_MADE).map(call -> call.split(" ")[1]).collect(Collectors.toCollection(TreeSet::new)).toString();
    }

    private static String namesOfTheFace() {
        return Arrays.stream(HiredEnemy.class.getMethods()).filter(m -> m.getDeclaringClass() == HiredEnemy.class).map(Method::getName)
            .collect(Collectors.toCollection(TreeSet::new)).toString();
    }

    private void run() {
        List<String> sack = new ArrayList<>();
        for (String call : CALLS_MADE) {
            String[] words = call.split(" ");
            for (int i = 0; i < Integer.parseInt(words[0]); i++) {
                sack.add(call);
            }
        }
        tell(SIEGE, "siege");
        while (told.size() < CALLS && !wrong) {
            int text = random.nextInt(60);
            if (text == 0 && random.nextInt(3) == 0) {
                tell(SIEGE, "siege");
            } else if (text <= 2) {
                tell(CONTRACT, "contract");
            } else {
                any(sack.get(random.nextInt(sack.size())).split(" "));
            }
        }
    }

    private void any(String[] words) {
        List<Object> arguments = new ArrayList<>();
        for (int i = 2; i + 1 < words.length; i += 2) {
            int n = between(Integer.parseInt(words[i]), most(words[i + 1]));
            arguments.add(words[1].equals("spy") && i == 2 ? (Object) (n > 0) : (Object) n);
        }
        while (words[1].equals("feed") && arguments.size() < 5) {
            arguments.add(random.nextInt());
        }
        call(words[1], arguments.toArray());
    }

    private int most(String said) {
        switch (said) {
            case "w":
                return due.told(0) - 1;
            case "c":
                return due.told(1) - 1;
            case "m":
                return due.told(2);
            default:
                return Integer.parseInt(said);
        }
    }

    /** Mostly of these, often the first and the last, sometimes just outside or far off. */
    private int between(int low, int high) {
        switch (random.nextInt(40)) {
            case 0:
                return low - 1;
            case 1:
                return high + 1;
            case 2:
                return random.nextInt(5) > 0 ? low : Integer.parseInt(FAR[random.nextInt(FAR.length)]);
            case 3:
                return low;
            case 4:
                return high;
            default:
                return low + random.nextInt(Math.max(1, high - low + 1));
        }
    }

    private void tell(String parts, String call) {
        String[] kinds = parts.split("\\|");
        StringBuilder text = new StringBuilder();
        for (int i = random.nextInt(10); i >= 0; i--) {
            String[] words = kinds[random.nextInt(kinds.length)].split(" ");
            text.append(words[0]);
            for (int w = 1; w + 1 < words.length; w += 2) {
                int low = Integer.parseInt(words[w]);
                int high = Math.max(low, most(words[w + 1]));
                int n = random.nextBoolean() ? Math.min(high, low + random.nextInt(14)) : low + random.nextInt(high - low + 1);
                text.append(random.nextInt(20) == 0 ? "  " : " ").append(n + (random.nextInt(200) == 0 ? 9999 : 0));
            }
            text.append(random.nextInt(200) == 0 ? " :" : ";");
        }
        text.setLength(Math.min(text.length(), call.equals("siege") ? 500 : 200));
        int before = due.count(1);
        for (int at = 0; at < text.length() && before == 0; at += 20) {
            Object[] five = new Object[5];
            for (int i = 0; i < 20; i++) {
                int sign = at + i < text.length() ? text.charAt(at + i) : 0;
                five[i / 4] = (i % 4 == 0 ? 0 : (Integer) five[i / 4]) << 8 | sign;
            }
            call("feed", five);
        }
        call(call, Math.min(text.length(), due.count(1)));
    }

    private void call(String name, Object... arguments) {
        if (told.size() >= CALLS) {
            return;
        }
        String asked = name + Arrays.toString(arguments);
        told.add(asked);
        String want = answer(due, name, arguments);
        String got = answer(made, name, arguments);
        if (!got.equals(want) && !wrong) {
            wrong = true;
            System.out.println(told);
        }
        Check.same(told.size() + ": " + asked, got, want);
    }

    private static String answer(Object of, String name, Object[] arguments) {
        for (Method m : of.getClass().getDeclaredMethods()) {
            if (m.getName().equals(name)) {
                try {
                    return String.valueOf(m.invoke(of, arguments));
                } catch (InvocationTargetException e) {
                    return e.getCause().getClass().getSimpleName();
                } catch (IllegalAccessException e) {
                    return "no access";
                }
            }
        }
        return "no such method";
    }
}
