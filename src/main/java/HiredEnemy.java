import java.util.Arrays;
import java.util.NoSuchElementException;

/** A siege whose enemy is hired by the duke that it frightens the town for. */
public final class HiredEnemy {
    public static final int NONE = -1;

    private static final int MOST_BYTES = 500;
    private static final int MOST_PACT_BYTES = 200;
    private static final int FEED_BYTES = 20;
    private static final int MOST_WALLS = 6;
    private static final int MOST_PACTS = 6;
    private static final int MOST_IMAGES = 3;
    private static final int MOST_MONTHS = 120;
    private static final int MOST_TRIED = 60;
    private static final int MOST_NEAR = 9;
    private static final int MOST_CORKS = 99;
    private static final int MOST_OFFERED_CORKS = 20;
    private static final int MOST_PAY = 9999;
    private static final int MOST_MEN = 6;

    // The slot behind the CONTRACTS that are told holds the one that offer() tries.
    private static final int PROPOSAL = MOST_PACTS;

    // A row of a MONTH: the first ten stand as sums() numbers them.
    private static final int DUKE_COIN = 0;
    private static final int ENEMY_COIN = 1;
    private static final int TOWN_COIN = 2;
    private static final int DUKE_MEN = 3;
    private static final int ENEMY_MEN = 4;
    private static final int FEAR = 5;
    private static final int BREACHES = 6;
    private static final int MISSED = 7;
    private static final int DEFAULTS = 8;
    private static final int SHOT = 9;
    private static final int IN_FORCE = 10;
    private static final int SIGNED = 11;
    private static final int LEFT = 12;
    private static final int FALLEN = LEFT + MOST_WALLS;
    private static final int ROW = FALLEN + MOST_WALLS;
    private static final int SUMS = 10;

    private static final int REFUSED_CONTRACT = 0;
    private static final int REFUSED_WALL = 1;
    private static final int REFUSED_ARGUMENT = 2;

    private final byte[] tape = new byte[MOST_BYTES];
    private int taped;
    private final Reader reader = new Reader();
    private Plan plan = new Plan();
    private Plan draft = new Plan();
    private final Pact[] pacts = new Pact[MOST_PACTS + 1];
    private int pactsTold;
    private final Scene scene = new Scene();
    private final Scene[] images = new Scene[MOST_IMAGES];
    private int imagesKept;
    private final Course trial = new Course();
    private final Battle battle = new Battle();
    private final int[] refused = new int[3];

    public HiredEnemy() {
        for (int i = 0; i < pacts.length; i++) {
            pacts[i] = new Pact();
        }
        scene.course.begin(plan);
    }

    public int feed(int a, int b, int c, int d, int e) {
        if (taped + FEED_BYTES > MOST_BYTES) {
            return NONE;
        }
        putOnTape(a);
        putOnTape(b);
        putOnTape(c);
        putOnTape(d);
        putOnTape(e);
        return taped;
    }

    private void putOnTape(int four) {
        for (int shift = 24; shift >= 0 && taped < tape.length; shift -= 8) {
            tape[taped] = (byte) (four >>> shift);
            taped++;
        }
    }

    public int siege(int n) throws IllegalArgumentException {
        demand(n >= 0 && n <= taped);
        taped = 0;
        draft.clear();
        int fault = reader.read(tape, n, draft);
        if (fault != 0) {
            return fault - 10;
        }
        Plan old = plan;
        plan = draft;
        draft = old;
        pactsTold = 0;
        imagesKept = 0;
        scene.begin(plan);
        return plan.walls;
    }

    public int contract(int n) throws IllegalArgumentException {
        demand(n >= 0 && n <= taped && n <= MOST_PACT_BYTES);
        taped = 0;
        if (pactsTold >= MOST_PACTS) {
            reader.place = NONE;
            return -1;
        }
        Pact pact = pacts[pactsTold];
        pact.clear(plan.walls);
        int fault = reader.read(tape, n, pact);
        if (fault != 0) {
            return fault - 10;
        }
        pactsTold++;
        return pactsTold - 1;
    }

    public int fault() {
        return reader.place;
    }

    public int told(int what) throws IllegalArgumentException {
        demand(within(what, 0, 4));
        Course course = scene.course;
        int inForce = course.now[IN_FORCE];
        switch (what) {
            case 0:
                return plan.walls;
            case 1:
                return pactsTold;
            case 2:
                return course.month;
            case 3:
                return inForce;
            default:
                return inForce == NONE ? NONE : course.month - course.now[SIGNED];
        }
    }

    public int wall(int wall, int what) throws IndexOutOfBoundsException, IllegalArgumentException {
        demandWall(wall);
        demand(within(what, 0, 3));
        switch (what) {
            case 0:
                return plan.strength[wall];
            case 1:
                return scene.course.now[LEFT + wall];
            case 2:
                return plan.mended[wall];
            default:
                return scene.course.now[FALLEN + wall];
        }
    }

    public int rule(int contract, int what) throws NoSuchElementException, IllegalArgumentException {
        demandContract(contract);
        demand(within(what, 0, 6));
        return pacts[contract].answer(what);
    }

    public int wants(int r, int corks) throws IllegalArgumentException {
        demand(within(r, 0, MOST_NEAR) && within(corks, 0, MOST_CORKS));
        return plan.wanted(r, corks);
    }

    public int sign(int contract) throws NoSuchElementException {
        demandContractOrNone(contract);
        int before = scene.course.now[IN_FORCE];
        scene.course.pledge(contract);
        return before;
    }

    public int months(int n) throws IllegalArgumentException {
        demand(within(n, 1, MOST_MONTHS));
        int gone = 0;
        while (gone < n && scene.course.month < MOST_MONTHS) {
            scene.annals.keep(scene.course);
            scene.course.pass(plan, inForce(scene.course));
            scene.annals.lead(scene.course);
            gone++;
        }
        return gone;
    }

    public int undo(int n) throws IllegalArgumentException {
        demand(within(n, 1, MOST_MONTHS));
        int undone = Math.min(n, scene.course.month);
        if (undone > 0) {
            scene.annals.giveBack(scene.course, scene.course.month - undone);
        }
        return undone;
    }

    public int sums(int what) throws IllegalArgumentException {
        demand(within(what, 0, SUMS - 1));
        return scene.course.now[what];
    }

    public int corks(int month, int wall) throws IndexOutOfBoundsException, IllegalArgumentException {
        demandWall(wall);
        demand(within(month, 0, MOST_MONTHS - 1));
        return month < scene.course.month ? scene.annals.shotAt(month, wall) : 0;
    }

    public int would(int contract, int n, int what) throws NoSuchElementException, IllegalArgumentException {
        demandContractOrNone(contract);
        demand(within(n, 1, MOST_TRIED) && within(what, 0, SUMS - 1));
        trySigned(contract, n);
        return trial.now[what];
    }

    public int best(int n, int what) throws IllegalArgumentException {
        demand(within(n, 1, MOST_TRIED) && within(what, 0, 1));
        int bestPact = NONE;
        int most = NONE;
        for (int i = 0; i < pactsTold; i++) {
            int coin = trySigned(i, n);
            if (coin > most) {
                most = coin;
                bestPact = i;
            }
        }
        int coin = trySigned(NONE, n);
        if (coin > most) {
            most = coin;
            bestPact = NONE;
        }
        return what == 0 ? bestPact : most;
    }

    public int offer(int n, int what) throws IllegalArgumentException {
        demand(within(n, 1, MOST_TRIED) && within(what, 0, 3));
        int bestNear = 0;
        int bestCorks = 0;
        int most = NONE;
        for (int r = 0; r <= MOST_NEAR; r++) {
            for (int corks = 0; corks <= MOST_OFFERED_CORKS; corks++) {
                pacts[PROPOSAL].propose(plan.wanted(r, corks), r, corks, n);
                int coin = trySigned(PROPOSAL, n);
                if (coin > most) {
                    most = coin;
                    bestNear = r;
                    bestCorks = corks;
                }
            }
        }
        switch (what) {
            case 0:
                return bestNear;
            case 1:
                return bestCorks;
            case 2:
                return plan.wanted(bestNear, bestCorks);
            default:
                return most;
        }
    }

    public int nearest(int pay, int corks) throws IllegalArgumentException {
        demand(within(pay, 0, MOST_PAY) && within(corks, 0, MOST_CORKS));
        for (int r = 0; r <= MOST_NEAR; r++) {
            if (plan.wanted(r, corks) <= pay) {
                return r;
            }
        }
        return NONE;
    }

    public int stop(int n, int what) throws IllegalArgumentException {
        demand(within(n, 1, MOST_TRIED) && within(what, 0, 1));
        int bestMonths = 0;
        int most = NONE;
        for (int paid = 0; paid <= n; paid++) {
            trial.take(scene.course);
            passTried(paid);
            trial.pledge(NONE);
            passTried(n - paid);
            if (trial.now[DUKE_COIN] > most) {
                most = trial.now[DUKE_COIN];
                bestMonths = paid;
            }
        }
        return what == 0 ? bestMonths : most;
    }

    public void odds(int a, int b) throws IllegalArgumentException {
        demand(within(a, 1, 99) && within(b, 1, 99));
        scene.belief.start(a, b);
    }

    public void kind(int kind, int real, int hired) throws IllegalArgumentException {
        demand(within(kind, 0, Belief.KINDS - 1) && within(real, 1, Belief.OF) && within(hired, 1, Belief.OF));
        scene.belief.ifReal[kind] = real;
        scene.belief.ifHired[kind] = hired;
    }

    public int seen(int kind) throws IllegalArgumentException {
        demand(within(kind, 0, Belief.KINDS - 1));
        Belief belief = scene.belief;
        return belief.add(belief.ifReal[kind], belief.ifHired[kind]);
    }

    public int spy(boolean real, int r) throws IllegalArgumentException {
        demand(within(r, 1, Belief.OF - 1));
        int wrong = Belief.OF - r;
        return real ? scene.belief.add(r, wrong) : scene.belief.add(wrong, r);
    }

    public long believed(int what) throws IllegalArgumentException {
        demand(within(what, 0, 1));
        return scene.belief.leastTerm(what == 0);
    }

    public int earnest(int a, int d, int what) throws IllegalArgumentException {
        demand(within(a, 0, MOST_MEN) && within(d, 0, MOST_MEN) && within(what, 0, 1));
        battle.prepare(plan);
        return what == 0 ? battle.safe(battle.all(), a, d) : battle.sure(a, d);
    }

    public int stands(int a, int d) throws IllegalArgumentException {
        demand(within(a, 0, MOST_MEN) && within(d, 0, MOST_MEN));
        battle.prepare(plan);
        battle.safe(battle.all(), a, d);
        return battle.safeDigits;
    }

    public int show(int a, int d) throws IllegalArgumentException {
        demand(within(a, 0, MOST_MEN) && within(d, 0, MOST_MEN));
        battle.prepare(plan);
        int safe = battle.safe(battle.all(), a, d);
        int shown = 0;
        for (int i = 0; i < battle.walls; i++) {
            int others = battle.all() & ~(1 << i);
            if (battle.safe(others, a, d) == safe) {
                shown |= 1 << i;
            }
        }
        return shown;
    }

    public int offers(int duke, int month, int coin) throws IllegalArgumentException {
        demand(within(duke, 1, 2) && within(month, 0, Bids.MONTHS - 1) && within(coin, 0, 999));
        return scene.bids.bid(duke, month, coin);
    }

    public int most() {
        return scene.bids.mostCoin();
    }

    public int serves(int month) throws IllegalArgumentException {
        demand(within(month, 0, Bids.MONTHS - 1));
        return scene.bids.served(month);
    }

    public int image() {
        if (imagesKept >= MOST_IMAGES) {
            return -1;
        }
        if (images[imagesKept] == null) {
            images[imagesKept] = new Scene();
        }
        images[imagesKept].take(scene);
        imagesKept++;
        return imagesKept;
    }

    public int restore() {
        if (imagesKept <= 0 || images[imagesKept - 1] == null) {
            return -1;
        }
        imagesKept--;
        scene.take(images[imagesKept]);
        return imagesKept;
    }

    public int status(int what) {
        return within(what, 0, refused.length - 1) ? refused[what] : NONE;
    }

    public int count(int what) {
        switch (what) {
            case 0:
                return imagesKept;
            case 1:
                return taped;
            case 2:
                return scene.belief.things;
            default:
                return NONE;
        }
    }

    private static boolean within(int n, int low, int high) {
        return n >= low && n <= high;
    }

    private void demand(boolean fine) {
        if (!fine) {
            refused[REFUSED_ARGUMENT]++;
            throw new IllegalArgumentException("no such argument");
        }
    }

    private void demandWall(int wall) {
        if (!within(wall, 0, plan.walls - 1)) {
            refused[REFUSED_WALL]++;
            throw new IndexOutOfBoundsException("no such wall");
        }
    }

    private void demandContract(int contract) {
        if (!within(contract, 0, pactsTold - 1)) {
            refused[REFUSED_CONTRACT]++;
            throw new NoSuchElementException("no such contract");
        }
    }

    private void demandContractOrNone(int contract) {
        if (contract != NONE) {
            demandContract(contract);
        }
    }

    private Pact inForce(Course course) {
        int pact = course.now[IN_FORCE];
        return within(pact, 0, PROPOSAL) ? pacts[pact] : null;
    }

    private void passTried(int n) {
        for (int i = 0; i < n && trial.month < MOST_MONTHS; i++) {
            trial.pass(plan, inForce(trial));
        }
    }

    private int trySigned(int pact, int n) {
        trial.take(scene.course);
        trial.pledge(pact);
        passTried(n);
        return trial.now[DUKE_COIN];
    }

    /** What a text tells: its words, their numbers, and where they go. */
    private abstract static class Telling {
        /** All words, a blank between two: a word's kind is its place among them. */
        abstract String words();

        abstract int mostParts();

        abstract boolean isFull(int kind);

        abstract int numbers(int kind);

        abstract int low(int kind, int i);

        abstract int high(int kind, int i);

        abstract void store(int kind, int[] numbers);
    }

    /** Reads a text from the left, up to its first FAULT. */
    private static final class Reader {
        private static final int MISPLACED = 1;
        private static final int NONE_SUCH = 2;
        private static final int TOO_MANY = 3;
        // Above all that a text may say, so that long numbers don't wrap round into range.
        private static final int HUGE = 100000;

        private byte[] bytes = new byte[0];
        private int length;
        private int at;
        private int fault;
        int place = NONE;
        private final int[] numbers = new int[3];

        /** The FAULT's number, 0 without; its place stays in place. */
        int read(byte[] text, int n, Telling telling) {
            bytes = text;
            length = Math.min(n, text.length);
            at = 0;
            fault = 0;
            place = NONE;
            // A text with one part too many has its FAULT there at the latest.
            for (int parts = 0; parts <= telling.mostParts(); parts++) {
                skipBlanks();
                if (at >= length || !readPart(telling, parts)) {
                    break;
                }
            }
            return fault;
        }

        private boolean readPart(Telling telling, int before) {
            int start = at;
            skipLetters();
            int kind = kindOf(telling.words(), start);
            if (kind == NONE) {
                return fail(MISPLACED, start);
            }
            if (before >= telling.mostParts() || telling.isFull(kind)) {
                return fail(TOO_MANY, start);
            }
            int count = Math.min(telling.numbers(kind), numbers.length);
            for (int i = 0; i < count; i++) {
                if (!readNumber(i, telling.low(kind, i), telling.high(kind, i))) {
                    return false;
                }
            }
            skipBlanks();
            if (at >= length || bytes[at] != ';') {
                return fail(MISPLACED, at);
            }
            at++;
            telling.store(kind, numbers);
            return true;
        }

        private boolean readNumber(int i, int low, int high) {
            skipBlanks();
            int start = at;
            int n = 0;
            while (at < length && bytes[at] >= '0' && bytes[at] <= '9') {
                n = Math.min(n * 10 + bytes[at] - '0', HUGE);
                at++;
            }
            if (at == start) {
                return fail(MISPLACED, start);
            }
            if (!within(n, low, high)) {
                return fail(NONE_SUCH, start);
            }
            numbers[i] = n;
            return true;
        }

        private boolean fail(int kind, int where) {
            fault = kind;
            place = where;
            return false;
        }

        private void skipBlanks() {
            while (at < length && bytes[at] == ' ') {
                at++;
            }
        }

        private void skipLetters() {
            while (at < length && bytes[at] >= 'a' && bytes[at] <= 'z') {
                at++;
            }
        }

        /** The place among the words of the one that ends here; NONE if it is none of them. */
        private int kindOf(String words, int start) {
            int kind = 0;
            int from = 0;
            for (int i = 0; i <= words.length(); i++) {
                if (i == words.length() || words.charAt(i) == ' ') {
                    if (isSame(words, from, i, start)) {
                        return kind;
                    }
                    kind++;
                    from = i + 1;
                }
            }
            return NONE;
        }

        private boolean isSame(String words, int from, int to, int start) {
            if (to - from != at - start) {
                return false;
            }
            for (int i = 0; i < to - from; i++) {
                if (words.charAt(from + i) != bytes[start + i]) {
                    return false;
                }
            }
            return true;
        }
    }

    /** A SIEGE as it was told. */
    private static final class Plan extends Telling {
        private static final String WORDS = "wall duke enemy town fear near mason cost";
        private static final int WALL = 0;
        private static final int NEAR = 5;
        private static final int MOST_CLAUSES = 60;
        private static final int EACH = 3;
        private static final int[] NUMBERS = {2, 3, 3, 2, 3, 2, 1, 2};
        private static final int[] HIGH = {
            99, 50, 0, 9999, 999, 9, 9999, 999, 9, 9999, 100, 0, 100, 50, 50, 9, 20, 0, 9, 0, 0, 99, 99, 0
        };
        private static final int[] UNTOLD = {
            0, 0, 0, 1000, 100, 3, 0, 100, 5, 5000, 20, 0, 20, 10, 5, 0, 0, 0, 1, 0, 0, 5, 1, 0
        };

        // The places of CLAUSES' numbers, three for each word.
        static final int DUKE = 3;
        static final int ENEMY = 6;
        static final int TOWN = 9;
        static final int FEARS = 12;
        static final int MASON = 18;
        private static final int COST = 21;

        final int[] said = new int[UNTOLD.length];
        private final int[] fearByNear = new int[MOST_NEAR + 1];
        final int[] strength = new int[MOST_WALLS];
        final int[] mended = new int[MOST_WALLS];
        int walls;

        Plan() {
            clear();
        }

        void clear() {
            walls = 0;
            for (int i = 0; i < said.length; i++) {
                said[i] = UNTOLD[i];
            }
            for (int r = 0; r < fearByNear.length; r++) {
                fearByNear[r] = MOST_NEAR - r;
            }
        }

        String words() {
            return WORDS;
        }

        int mostParts() {
            return MOST_CLAUSES;
        }

        boolean isFull(int kind) {
            return kind == WALL && walls >= MOST_WALLS;
        }

        int numbers(int kind) {
            return within(kind, 0, NUMBERS.length - 1) ? NUMBERS[kind] : 0;
        }

        int low(int kind, int i) {
            return kind == WALL && i == 0 ? 1 : 0;
        }

        int high(int kind, int i) {
            int at = kind * EACH + i;
            return within(at, 0, HIGH.length - 1) ? HIGH[at] : 0;
        }

        void store(int kind, int[] numbers) {
            if (kind == WALL) {
                addWall(numbers[0], numbers[1]);
            } else if (kind == NEAR) {
                if (within(numbers[0], 0, MOST_NEAR)) {
                    fearByNear[numbers[0]] = numbers[1];
                }
            } else {
                for (int i = 0; i < numbers(kind); i++) {
                    said[kind * EACH + i] = numbers[i];
                }
            }
        }

        private void addWall(int full, int monthly) {
            if (walls < MOST_WALLS) {
                strength[walls] = full;
                mended[walls] = monthly;
                walls++;
            }
        }

        /** What FEAR is more by a MONTH at this NEARNESS. */
        int fearAt(int r) {
            return within(r, 0, MOST_NEAR) ? fearByNear[r] : 0;
        }

        int wanted(int r, int corks) {
            return said[COST] + said[COST + 1] * corks + said[COST] * (MOST_NEAR - r);
        }
    }

    /** A CONTRACT: as it was told, or as offer() proposes it. */
    private static final class Pact extends Telling {
        private static final String WORDS = "pay winter near corks bonus till breach";
        private static final int PAY = 0;
        private static final int WINTER = 1;
        static final int NEAR = 2;
        static final int CORKS = 3;
        static final int BONUS = 4;
        static final int TILL = 5;
        private static final int BREACH = 6;
        private static final int MOST_RULES = 20;
        private static final int MOST_TILL = 36;
        private static final int[] HIGH = {999, 999, 9, 99, 99, 36};

        final int[] said = new int[BREACH];
        private final int[] wallByMonth = new int[MOST_TILL];
        private int walls;

        void clear(int wallsThere) {
            walls = wallsThere;
            said[PAY] = 0;
            said[WINTER] = NONE;
            said[NEAR] = MOST_NEAR;
            said[CORKS] = 0;
            said[BONUS] = 0;
            said[TILL] = MOST_TILL;
            Arrays.fill(wallByMonth, NONE);
        }

        void propose(int pay, int r, int corks, int till) {
            clear(0);
            said[PAY] = pay;
            said[NEAR] = r;
            said[CORKS] = corks;
            said[TILL] = till;
        }

        String words() {
            return WORDS;
        }

        int mostParts() {
            return MOST_RULES;
        }

        boolean isFull(int kind) {
            return false;
        }

        int numbers(int kind) {
            return kind == BREACH ? 2 : 1;
        }

        int low(int kind, int i) {
            return kind == TILL ? 1 : 0;
        }

        int high(int kind, int i) {
            if (kind == BREACH) {
                return i == 0 ? walls - 1 : MOST_TILL - 1;
            }
            return within(kind, 0, HIGH.length - 1) ? HIGH[kind] : 0;
        }

        void store(int kind, int[] numbers) {
            if (kind == BREACH) {
                if (within(numbers[1], 0, MOST_TILL - 1)) {
                    wallByMonth[numbers[1]] = numbers[0];
                }
            } else if (within(kind, 0, said.length - 1)) {
                said[kind] = numbers[0];
            }
        }

        /** As rule() numbers them. */
        int answer(int what) {
            if (what == BREACH) {
                return breachesTold();
            }
            return what == WINTER ? winterPay() : said[what];
        }

        private int winterPay() {
            return said[WINTER] == NONE ? said[PAY] : said[WINTER];
        }

        private int breachesTold() {
            int told = 0;
            for (int wall : wallByMonth) {
                if (wall != NONE) {
                    told++;
                }
            }
            return told;
        }

        int payIn(int month) {
            int left = month % 12;
            return left >= 10 || left <= 1 ? winterPay() : said[PAY];
        }

        /** The WALL of these that is to fall in a MONTH of this CONTRACT, or NONE. */
        int wallDue(int ownMonth, int wallsThere) {
            int wall = within(ownMonth, 0, MOST_TILL - 1) ? wallByMonth[ownMonth] : NONE;
            return wall < wallsThere ? wall : NONE;
        }
    }

    /** How things stand at the beginning of a MONTH, and how a MONTH goes by. */
    private static final class Course {
        private static final int MOST_FEAR = 100;
        // Up to this NEARNESS every second cork takes 2.
        private static final int CLOSE = 4;

        final int[] now = new int[ROW];
        final int[] shot = new int[MOST_WALLS];
        int month;

        void begin(Plan plan) {
            month = 0;
            Arrays.fill(now, 0);
            now[DUKE_COIN] = plan.said[Plan.DUKE];
            now[DUKE_MEN] = plan.said[Plan.DUKE + 1];
            now[ENEMY_COIN] = plan.said[Plan.ENEMY];
            now[ENEMY_MEN] = plan.said[Plan.ENEMY + 1];
            now[TOWN_COIN] = plan.said[Plan.TOWN];
            now[FEAR] = plan.said[Plan.FEARS];
            now[IN_FORCE] = NONE;
            for (int i = 0; i < plan.walls; i++) {
                now[LEFT + i] = plan.strength[i];
            }
        }

        void take(Course other) {
            System.arraycopy(other.now, 0, now, 0, ROW);
            month = other.month;
        }

        void pledge(int pact) {
            now[IN_FORCE] = pact;
            now[SIGNED] = month;
        }

        /** One MONTH by the CONTRACT in force (null: none). */
        void pass(Plan plan, Pact pact) {
            Arrays.fill(shot, 0);
            move(TOWN_COIN, DUKE_COIN, now[DUKE_MEN] * plan.said[Plan.TOWN + 1] * now[FEAR] / 10000);
            if (pact != null && isPaid(pact)) {
                shoot(plan, pact);
                frighten(plan.fearAt(pact.said[Pact.NEAR]));
            }
            now[FEAR] = Math.max(0, now[FEAR] - plan.said[Plan.FEARS + 2]);
            mend(plan);
            move(DUKE_COIN, TOWN_COIN, plan.said[Plan.DUKE + 2] * (now[DUKE_MEN] / 10));
            move(ENEMY_COIN, TOWN_COIN, plan.said[Plan.ENEMY + 2] * (now[ENEMY_MEN] / 10));
            desert(plan.said[Plan.ENEMY + 2] - plan.said[Plan.DUKE + 2]);
            month++;
            if (pact != null && month - now[SIGNED] >= pact.said[Pact.TILL]) {
                now[IN_FORCE] = NONE;
            }
        }

        /** Coin goes from one to another, what there is at most. */
        private void move(int from, int to, int due) {
            int coin = Math.min(due, now[from]);
            now[from] -= coin;
            now[to] += coin;
        }

        private boolean isPaid(Pact pact) {
            int pay = pact.payIn(month);
            if (now[DUKE_COIN] < pay) {
                now[DEFAULTS]++;
                now[IN_FORCE] = NONE;
                return false;
            }
            move(DUKE_COIN, ENEMY_COIN, pay);
            return true;
        }

        private void shoot(Plan plan, Pact pact) {
            int due = pact.wallDue(month - now[SIGNED], plan.walls);
            int fallenBefore = due == NONE ? 0 : now[FALLEN + due];
            // Without WALLS there is nothing that a cork could be led to.
            int corks = plan.walls > 0 ? pact.said[Pact.CORKS] : 0;
            boolean close = pact.said[Pact.NEAR] <= CLOSE;
            int target = NONE;
            for (int i = 1; i <= corks; i++) {
                // A WALL that was the weakest stays so till it falls.
                if (target == NONE) {
                    target = due == NONE ? weakest(plan.walls) : due;
                }
                shot[target]++;
                now[SHOT]++;
                now[LEFT + target] -= close && i % 2 == 0 ? 2 : 1;
                if (now[LEFT + target] <= 0) {
                    breach(plan, pact, target);
                    target = NONE;
                }
            }
            if (due != NONE && now[FALLEN + due] == fallenBefore) {
                now[MISSED]++;
            }
        }

        private int weakest(int walls) {
            int found = 0;
            for (int i = 1; i < walls; i++) {
                if (now[LEFT + i] < now[LEFT + found]) {
                    found = i;
                }
            }
            return found;
        }

        private void breach(Plan plan, Pact pact, int wall) {
            now[BREACHES]++;
            now[FALLEN + wall]++;
            now[LEFT + wall] = plan.strength[wall];
            frighten(plan.said[Plan.FEARS + 1]);
            move(DUKE_COIN, ENEMY_COIN, pact.said[Pact.BONUS]);
        }

        private void frighten(int more) {
            now[FEAR] = Math.min(MOST_FEAR, now[FEAR] + more);
        }

        private void mend(Plan plan) {
            int price = plan.said[Plan.MASON];
            for (int i = 0; i < plan.walls; i++) {
                int more = Math.min(plan.mended[i], plan.strength[i] - now[LEFT + i]);
                if (price > 0) {
                    more = Math.min(more, now[DUKE_COIN] / price);
                }
                now[LEFT + i] += more;
                move(DUKE_COIN, TOWN_COIN, more * price);
            }
        }

        private void desert(int enemyCooksMore) {
            int from = enemyCooksMore > 0 ? DUKE_MEN : ENEMY_MEN;
            int to = enemyCooksMore > 0 ? ENEMY_MEN : DUKE_MEN;
            int men = now[from] * Math.abs(enemyCooksMore) / 100;
            now[from] -= men;
            now[to] += men;
        }
    }

    /** Of each MONTH that is gone: how it began, and the corks of it. */
    private static final class Annals {
        private static final int LINE = ROW + MOST_WALLS;

        private final int[] lines = new int[MOST_MONTHS * LINE];

        void keep(Course course) {
            if (within(course.month, 0, MOST_MONTHS - 1)) {
                System.arraycopy(course.now, 0, lines, course.month * LINE, ROW);
            }
        }

        /** Leads the corks of the MONTH that has just gone by. */
        void lead(Course course) {
            if (within(course.month, 1, MOST_MONTHS)) {
                System.arraycopy(course.shot, 0, lines, (course.month - 1) * LINE + ROW, MOST_WALLS);
            }
        }

        void giveBack(Course course, int month) {
            if (within(month, 0, MOST_MONTHS - 1)) {
                System.arraycopy(lines, month * LINE, course.now, 0, ROW);
                course.month = month;
            }
        }

        int shotAt(int month, int wall) {
            return lines[month * LINE + ROW + wall];
        }

        void take(Annals other, int months) {
            if (within(months, 0, MOST_MONTHS)) {
                System.arraycopy(other.lines, 0, lines, 0, months * LINE);
            }
        }
    }

    /** Whether he is a REAL one: odds, SIGNS, SPIES. */
    private static final class Belief {
        static final int KINDS = 4;
        static final int OF = 16;
        private static final int MOST_THINGS = 12;
        // Euclid's steps on longs are fewer than a hundred.
        private static final int MOST_STEPS = 200;

        final int[] ifReal = {8, 8, 8, 8};
        final int[] ifHired = {8, 8, 8, 8};
        private int firstReal = 1;
        private int firstHired = 1;
        // 99 times 16 twelve times over fits a long, so terms are cut only when asked for.
        private long real = 1;
        private long hired = 1;
        int things;

        void start(int a, int b) {
            firstReal = a;
            firstHired = b;
            forget();
        }

        void forget() {
            real = firstReal;
            hired = firstHired;
            things = 0;
        }

        int add(int timesReal, int timesHired) {
            if (things >= MOST_THINGS) {
                return -1;
            }
            real *= timesReal;
            hired *= timesHired;
            things++;
            return things;
        }

        long leastTerm(boolean ofReal) {
            long a = real;
            long b = hired;
            for (int i = 0; i < MOST_STEPS && b != 0; i++) {
                long rest = a % b;
                a = b;
                b = rest;
            }
            long term = ofReal ? real : hired;
            return a > 0 ? term / a : term;
        }

        void take(Belief other) {
            System.arraycopy(other.ifReal, 0, ifReal, 0, KINDS);
            System.arraycopy(other.ifHired, 0, ifHired, 0, KINDS);
            firstReal = other.firstReal;
            firstHired = other.firstHired;
            real = other.real;
            hired = other.hired;
            things = other.things;
        }
    }

    /** TWO DUKES with one enemy. */
    private static final class Bids {
        static final int MONTHS = 12;
        // Served are none, the first duke, the second.
        private static final int WAYS = 3;

        private final int[] coins = new int[MONTHS * WAYS];
        // The most from a MONTH on, if in the one ahead of it this one was served.
        private final int[] rest = new int[(MONTHS + 1) * WAYS];

        void clear() {
            Arrays.fill(coins, 0);
        }

        int bid(int duke, int month, int coin) {
            int at = month * WAYS + duke;
            int before = coins[at];
            coins[at] = coin;
            return before;
        }

        int mostCoin() {
            for (int month = MONTHS - 1; month >= 0; month--) {
                for (int before = 0; before < WAYS; before++) {
                    rest[month * WAYS + before] = mostFrom(month, before);
                }
            }
            return rest[0];
        }

        private int mostFrom(int month, int before) {
            int most = 0;
            for (int way = 0; way < WAYS; way++) {
                if (mayFollow(before, way)) {
                    most = Math.max(most, through(month, way));
                }
            }
            return most;
        }

        private int through(int month, int way) {
            return coins[month * WAYS + way] + rest[(month + 1) * WAYS + way];
        }

        private static boolean mayFollow(int before, int way) {
            return before == 0 || way == 0 || before == way;
        }

        int served(int month) {
            mostCoin();
            int way = 0;
            for (int i = 0; i <= month && i < MONTHS; i++) {
                way = firstWay(i, way);
            }
            return way;
        }

        private int firstWay(int month, int before) {
            for (int way = 0; way < WAYS; way++) {
                if (mayFollow(before, way) && through(month, way) == rest[month * WAYS + before]) {
                    return way;
                }
            }
            return 0;
        }

        void take(Bids other) {
            System.arraycopy(other.coins, 0, coins, 0, coins.length);
        }
    }

    /** IN EARNEST: men at the first WALLS; sets of WALLS are bits. */
    private static final class Battle {
        private static final int MOST = 3;
        private static final int SETS = 1 << MOST;

        private final int[] worth = new int[MOST];
        private final int[] held = new int[MOST];
        private final int[] put = new int[MOST];
        int walls;
        int safeDigits;

        void prepare(Plan plan) {
            walls = Math.min(plan.walls, MOST);
            for (int i = 0; i < walls; i++) {
                worth[i] = plan.strength[i];
                held[i] = plan.strength[i] / 25;
            }
        }

        int all() {
            return (1 << walls) - 1;
        }

        /** SAFE with these WALLS alone; the first way for it stays in safeDigits. */
        int safe(int among, int attackers, int defenders) {
            int least = NONE;
            safeDigits = 0;
            for (int x = 0; x <= defenders; x++) {
                for (int y = 0; y <= defenders - x; y++) {
                    if (!place(among, x, y, defenders - x - y)) {
                        continue;
                    }
                    int worst = mostFelled(among, attackers);
                    if (least == NONE || worst < least) {
                        least = worst;
                        safeDigits = digits();
                    }
                }
            }
            return Math.max(least, 0);
        }

        int sure(int attackers, int defenders) {
            int most = 0;
            for (int x = 0; x <= attackers; x++) {
                for (int y = 0; y <= attackers - x; y++) {
                    if (place(all(), x, y, attackers - x - y)) {
                        most = Math.max(most, leastFelled(defenders));
                    }
                }
            }
            return most;
        }

        /** Puts men; false if some would stand where no WALL of these is. */
        private boolean place(int among, int x, int y, int z) {
            put[0] = x;
            put[1] = y;
            put[2] = z;
            for (int i = 0; i < MOST; i++) {
                if (put[i] > 0 && (among >> i & 1) == 0) {
                    return false;
                }
            }
            return true;
        }

        private int digits() {
            int digits = 0;
            for (int i = 0; i < walls; i++) {
                digits = digits * 10 + put[i];
            }
            return digits;
        }

        /** What falls at the worst, where the duke's men stand as put. */
        private int mostFelled(int among, int attackers) {
            int most = 0;
            for (int set = 0; set < SETS; set++) {
                if ((set & ~among) == 0 && menToFell(set) <= attackers) {
                    most = Math.max(most, worthOf(set));
                }
            }
            return most;
        }

        /** What falls at the least, where the enemy's men stand as put. */
        private int leastFelled(int defenders) {
            int most = 0;
            for (int set = 0; set <= all(); set++) {
                if (menToHold(set) <= defenders) {
                    most = Math.max(most, worthOf(set));
                }
            }
            return worthOf(all()) - most;
        }

        private int menToFell(int set) {
            int men = 0;
            for (int i = 0; i < MOST; i++) {
                if ((set >> i & 1) == 1) {
                    men += put[i] + held[i] + 1;
                }
            }
            return men;
        }

        private int menToHold(int set) {
            int men = 0;
            for (int i = 0; i < MOST; i++) {
                if ((set >> i & 1) == 1) {
                    men += Math.max(0, put[i] - held[i]);
                }
            }
            return men;
        }

        private int worthOf(int set) {
            int sum = 0;
            for (int i = 0; i < MOST; i++) {
                if ((set >> i & 1) == 1) {
                    sum += worth[i];
                }
            }
            return sum;
        }
    }

    /** All that an IMAGE keeps. */
    private static final class Scene {
        final Course course = new Course();
        final Annals annals = new Annals();
        final Belief belief = new Belief();
        final Bids bids = new Bids();

        void begin(Plan plan) {
            course.begin(plan);
            belief.forget();
            bids.clear();
        }

        void take(Scene other) {
            course.take(other.course);
            annals.take(other.annals, other.course.month);
            belief.take(other.belief);
            bids.take(other.bids);
        }
    }
}
