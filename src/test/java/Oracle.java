import java.util.ArrayList;
import java.util.List;

/** A MONTH written down a second time, apart from the class, for tests to compare with. */
final class Oracle {
    static final class Wall {
        long strength;
        long mended;
        long left;
        long fallen;
    }

    static final class Rules {
        long pay;
        long winter;
        int near = 9;
        int corks;
        long bonus;
        int till = 36;
        int[] breach = new int[100];

        Rules() {
            java.util.Arrays.fill(breach, -1);
        }
    }

    final List<Wall> walls = new ArrayList<>();
    long duke = 1000;
    long enemy;
    long town = 5000;
    long dukeMen = 100;
    long enemyMen = 100;
    long dukeCooks = 3;
    long enemyCooks = 5;
    long tax = 20;
    long fear = 20;
    long fearBreach = 10;
    long fearLess = 5;
    long[] fearNear = {9, 8, 7, 6, 5, 4, 3, 2, 1, 0};
    long price = 1;
    long costA = 5;
    long costB = 1;
    long breaches;
    long missed;
    long defaults;
    long shots;
    int month;
    int signed;
    Rules rules;
    /** Of the latest MONTH. */
    long[] shotAt = new long[6];

    void sign(Rules r) {
        rules = r;
        signed = month;
    }

    void pass() {
        shotAt = new long[6];
        long taxes = Math.min(town, dukeMen * tax * fear / 10000);
        town -= taxes;
        duke += taxes;
        Rules inForce = rules;
        if (inForce != null) {
            int winter = month % 12;
            long pay = winter == 10 || winter == 11 || winter == 0 || winter == 1 ? inForce.winter : inForce.pay;
            if (pay > duke) {
                defaults++;
                rules = null;
            } else {
                duke -= pay;
                enemy += pay;
                shoot(inForce);
                fear = Math.min(100, fear + fearNear[inForce.near]);
            }
        }
        fear = Math.max(0, fear - fearLess);
        for (Wall w : walls) {
            // One of STRENGTH after the other, as long as there is coin for it.
            for (int i = 0; i < w.mended && w.left < w.strength && duke >= price; i++) {
                w.left++;
                duke -= price;
                town += price;
            }
        }
        long dukePays = Math.min(duke, dukeCooks * (dukeMen / 10));
        long enemyPays = Math.min(enemy, enemyCooks * (enemyMen / 10));
        duke -= dukePays;
        enemy -= enemyPays;
        town += dukePays + enemyPays;
        long over = dukeCooks < enemyCooks ? dukeMen * (enemyCooks - dukeCooks) / 100 : -(enemyMen * (dukeCooks - enemyCooks) / 100);
        dukeMen -= over;
        enemyMen += over;
        if (rules != null && month - signed == rules.till - 1) {
            rules = null;
        }
        month++;
    }

    private void shoot(Rules inForce) {
        int due = inForce.breach[month - signed];
        boolean fell = false;
        for (int i = 0; i < inForce.corks && !walls.isEmpty(); i++) {
            int at = due;
            if (due < 0) {
                at = 0;
                for (int w = walls.size() - 1; w >= 0; w--) {
                    if (walls.get(w).left <= walls.get(at).left) {
                        at = w;
                    }
                }
            }
            Wall wall = walls.get(at);
            shots++;
            shotAt[at]++;
            wall.left -= inForce.near < 5 && i % 2 == 1 ? 2 : 1;
            if (wall.left <= 0) {
                wall.left = wall.strength;
                wall.fallen++;
                breaches++;
                fear = Math.min(100, fear + fearBreach);
                long bonus = Math.min(duke, inForce.bonus);
                duke -= bonus;
                enemy += bonus;
                fell |= at == due;
            }
        }
        if (due >= 0 && !fell) {
            missed++;
        }
    }

    long sum(int what) {
        return new long[] {duke, enemy, town, dukeMen, enemyMen, fear, breaches, missed, defaults, shots}[what];
    }
}
