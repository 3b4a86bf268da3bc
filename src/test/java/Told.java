import java.util.ArrayList;
import java.util.List;
import java.util.Random;

/** A SIEGE with CONTRACTS made up at random, as texts and for the oracle. */
final class Told {
    final StringBuilder siege = new StringBuilder();
    final List<String> contracts = new ArrayList<>();
    final List<Oracle.Rules> rules = new ArrayList<>();
    private final List<int[]> walls = new ArrayList<>();
    private final int[] duke;
    private final int[] enemy;
    private final int[] town;
    private final int[] fear;
    private final int[] near = {9, 8, 7, 6, 5, 4, 3, 2, 1, 0};
    private final int mason;
    private final int[] cost;

    Told(Random random) {
        int count = random.nextInt(7);
        int full = random.nextBoolean() ? 99 : 12;
        for (int i = 0; i < count; i++) {
            walls.add(new int[] {1 + random.nextInt(full), random.nextInt(random.nextBoolean() ? 4 : 51)});
            clause("wall", walls.get(i));
        }
        duke = new int[] {random.nextInt(random.nextBoolean() ? 300 : 10000), random.nextInt(1000), random.nextInt(10)};
        enemy = new int[] {random.nextInt(random.nextBoolean() ? 300 : 10000), random.nextInt(1000), random.nextInt(10)};
        town = new int[] {random.nextInt(random.nextBoolean() ? 300 : 10000), random.nextInt(101)};
        fear = new int[] {random.nextInt(101), random.nextInt(51), random.nextInt(random.nextBoolean() ? 10 : 51)};
        mason = random.nextInt(10);
        cost = new int[] {random.nextInt(random.nextBoolean() ? 5 : 100), random.nextInt(random.nextBoolean() ? 3 : 100)};
        clause("duke", duke);
        clause("enemy", enemy);
        clause("town", town);
        clause("fear", fear);
        clause("mason", mason);
        clause("cost", cost);
        for (int i = random.nextInt(8); i > 0; i--) {
            int r = random.nextInt(10);
            near[r] = random.nextInt(21);
            clause("near", r, near[r]);
        }
        for (int i = random.nextInt(7); i > 0; i--) {
            addContract(random);
        }
    }

    private void clause(String word, int... numbers) {
        add(siege, word, numbers);
    }

    private static void add(StringBuilder text, String word, int... numbers) {
        text.append(word);
        for (int n : numbers) {
            text.append(' ').append(n);
        }
        text.append(';');
    }

    private void addContract(Random random) {
        StringBuilder text = new StringBuilder();
        Oracle.Rules r = new Oracle.Rules();
        if (random.nextInt(8) > 0) {
            r.pay = random.nextInt(random.nextBoolean() ? 40 : 1000);
            add(text, "pay", (int) r.pay);
        }
        r.winter = r.pay;
        if (random.nextBoolean()) {
            r.winter = random.nextInt(random.nextBoolean() ? 40 : 1000);
            add(text, "winter", (int) r.winter);
        }
        if (random.nextBoolean()) {
            r.near = random.nextInt(10);
            add(text, "near", r.near);
        }
        if (random.nextInt(8) > 0) {
            r.corks = random.nextInt(100);
            add(text, "corks", r.corks);
        }
        if (random.nextBoolean()) {
            r.bonus = random.nextInt(100);
            add(text, "bonus", (int) r.bonus);
        }
        if (random.nextBoolean()) {
            r.till = 1 + random.nextInt(36);
            add(text, "till", r.till);
        }
        for (int i = walls.isEmpty() ? 0 : random.nextInt(10); i > 0; i--) {
            int month = random.nextInt(random.nextBoolean() ? 6 : 36);
            r.breach[month] = random.nextInt(walls.size());
            add(text, "breach", r.breach[month], month);
        }
        contracts.add(text.toString());
        rules.add(r);
    }

    HiredEnemy object() {
        return Check.with(siege.toString(), contracts.toArray(new String[0]));
    }

    Oracle oracle() {
        Oracle o = new Oracle();
        for (int[] w : walls) {
            Oracle.Wall wall = new Oracle.Wall();
            wall.strength = w[0];
            wall.left = w[0];
            wall.mended = w[1];
            o.walls.add(wall);
        }
        o.duke = duke[0];
        o.dukeMen = duke[1];
        o.dukeCooks = duke[2];
        o.enemy = enemy[0];
        o.enemyMen = enemy[1];
        o.enemyCooks = enemy[2];
        o.town = town[0];
        o.tax = town[1];
        o.fear = fear[0];
        o.fearBreach = fear[1];
        o.fearLess = fear[2];
        for (int r = 0; r < 10; r++) {
            o.fearNear[r] = near[r];
        }
        o.price = mason;
        o.costA = cost[0];
        o.costB = cost[1];
        return o;
    }
}
