import java.util.ArrayList;
import java.util.List;

/** How things stand in a MONTH, for Model: the document's '==== 2.' by its letters. */
final class ModelWorld {
    private final ReadingTest.Read siege;
    private final List<ReadingTest.Read> contracts;
    int month;
    int inForce = -1;
    int signed;
    int duke;
    private int enemy;
    private int town;
    private int dukeMen;
    private int enemyMen;
    private int fear;
    private int missed;
    private int defaults;
    int[] left = new int[0];
    int[] fallen = new int[0];
    List<int[]> led = new ArrayList<>();
    private ReadingTest.Read contract;

    ModelWorld(ReadingTest.Read siege, List<ReadingTest.Read> contracts) {
        this.siege = siege;
        this.contracts = contracts;
        duke = siege.last("duke", 1000, 100, 3)[0];
        dukeMen = siege.last("duke", 1000, 100, 3)[1];
        enemy = siege.last("enemy", 0, 100, 5)[0];
        enemyMen = siege.last("enemy", 0, 100, 5)[1];
        town = siege.last("town", 5000, 20)[0];
        fear = siege.last("fear", 20, 10, 5)[0];
        left = siege.all("wall").stream().mapToInt(w -> w[0]).toArray();
        fallen = new int[left.length];
    }

    ModelWorld copy() {
        ModelWorld w = new ModelWorld(siege, contracts);
        w.month = month;
        w.inForce = inForce;
        w.signed = signed;
        w.contract = contract;
        w.duke = duke;
        w.enemy = enemy;
        w.town = town;
        w.dukeMen = dukeMen;
        w.enemyMen = enemyMen;
        w.fear = fear;
        w.missed = missed;
        w.defaults = defaults;
        w.left = left.clone();
        w.fallen = fallen.clone();
        w.led = new ArrayList<>(led);
        return w;
    }

    ModelWorld replay(List<Integer> done, int aMonth) {
        for (int what : done) {
            if (what == aMonth) {
                go(1);
            } else {
                sign(what, what < 0 ? null : contracts.get(what));
            }
        }
        return this;
    }

    void sign(int number, ReadingTest.Read told) {
        inForce = number;
        contract = told;
        signed = month;
    }

    void go(int n) {
        for (int i = 0; i < n && month < 120; i++) {
            goOne();
        }
    }

    int sum(int what) {
        int breaches = 0;
        for (int f : fallen) {
            breaches += f;
        }
        int corks = 0;
        for (int[] ofMonth : led) {
            for (int c : ofMonth) {
                corks += c;
            }
        }
        return new int[] {duke, enemy, town, dukeMen, enemyMen, fear, breaches, missed, defaults, corks}[what];
    }

    private void goOne() {
        int taxes = Math.min(town, (int) Math.floor((double) dukeMen * siege.last("town", 5000, 20)[1] * fear / 10000));
        town -= taxes;
        duke += taxes;
        led.add(new int[left.length]);
        if (contract != null) {
            int inYear = month - month / 12 * 12;
            int pay = contract.last("pay", 0)[0];
            int due = List.of(10, 11, 0, 1).contains(inYear) ? contract.last("winter", pay)[0] : pay;
            if (duke < due) {
                defaults++;
                sign(-1, null);
            } else {
                duke -= due;
                enemy += due;
                cork();
                fear = Math.min(100, fear + nearnessTells(contract.last("near", 9)[0]));
            }
        }
        fear = Math.max(0, fear - siege.last("fear", 20, 10, 5)[2]);
        mend();
        cooks();
        if (contract != null && month == signed + contract.last("till", 36)[0] - 1) {
            sign(-1, null);
        }
        month++;
    }

    private int nearnessTells(int r) {
        int tells = 9 - r;
        for (int[] near : siege.all("near")) {
            tells = near[0] == r ? near[1] : tells;
        }
        return tells;
    }

    private int toldNow() {
        int wall = -1;
        for (int[] breach : contract.all("breach")) {
            wall = breach[1] == month - signed ? breach[0] : wall;
        }
        return wall;
    }

    private void cork() {
        int toldNow = toldNow();
        int before = toldNow < 0 ? 0 : fallen[toldNow];
        boolean near = contract.last("near", 9)[0] < 5;
        for (int nth = 1; nth <= contract.last("corks", 0)[0] && left.length > 0; nth++) {
            int at = toldNow;
            for (int w = 0; w < left.length && toldNow < 0; w++) {
                at = at < 0 || left[w] < left[at] ? w : at;
            }
            led.get(month)[at]++;
            left[at] -= near && nth % 2 == 0 ? 2 : 1;
            if (left[at] < 1) {
                left[at] = siege.all("wall").get(at)[0];
                fallen[at]++;
                fear = Math.min(100, fear + siege.last("fear", 20, 10, 5)[1]);
                int bonus = Math.min(duke, contract.last("bonus", 0)[0]);
                duke -= bonus;
                enemy += bonus;
            }
        }
        if (toldNow >= 0 && fallen[toldNow] == before) {
            missed++;
        }
    }

    private void mend() {
        int price = siege.last("mason", 1)[0];
        for (int w = 0; w < left.length; w++) {
            int[] wall = siege.all("wall").get(w);
            for (int i = 0; i < wall[1]; i++) {
                if (left[w] < wall[0] && duke >= price) {
                    left[w]++;
                    duke -= price;
                    town += price;
                }
            }
        }
    }

    private void cooks() {
        int ours = siege.last("duke", 1000, 100, 3)[2];
        int theirs = siege.last("enemy", 0, 100, 5)[2];
        int dukePays = Math.min(duke, dukeMen / 10 * ours);
        int enemyPays = Math.min(enemy, enemyMen / 10 * theirs);
        duke -= dukePays;
        enemy -= enemyPays;
        town += dukePays + enemyPays;
        if (ours < theirs) {
            int men = dukeMen * (theirs - ours) / 100;
            dukeMen -= men;
            enemyMen += men;
        } else {
            int men = enemyMen * (ours - theirs) / 100;
            enemyMen -= men;
            dukeMen += men;
        }
    }
}
