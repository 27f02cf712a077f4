/**
 * People in a row of houses who owe one another, and a law by which their fronts
 * are painted by what they owe. ../shared/DOC.md says what each call promises.
 */
public final class DebtFronts {
    public static final int NONE = -1000000, BAD = -1000001, STATE = -1000002, FULL = -1000003;

    private static final int FINDING = -1000010;
    private static final int FINDING_NULL = 1;
    private static final int FINDING_PLACE = 2;
    private static final int FINDING_KIND = 3;
    private static final int FINDING_SIZE = 4;
    private static final int FINDING_STORE = 5;
    private static final int FAULT_AT = -1000100;

    private static final int ROWS = 8;
    private static final int ITEMS_MOST = 40;
    private static final int LANE_BYTES = 0;
    private static final int LANE_SHORTS = 1;
    private static final int LANE_INTS = 2;
    private static final int LANE_MISSING = -1;

    private static final int TAPE_MOST = 400;
    private static final int FEED_MOST = 8;
    private static final int PEOPLE_MOST = 7;
    private static final int DEBTS_TOLD_MOST = 20;
    private static final int ACTS_MOST = 24;
    private static final int IMAGES = 2;
    private static final int TRACE_MOST = 16;

    private static final int SHADE_MOST = 9;
    private static final int SHADE_RED = 7;
    private static final int NET_MOST = 9;
    private static final int NOT_PAINTED = -1;
    private static final int LOAN_MOST = 999;
    private static final int DEBT_MOST = 99999;
    private static final int QUARTERS_MOST = 999;
    private static final int QUARTERS_TO_WHITE = 9;
    private static final int SEED_MOST = 999999;
    private static final int COIN_MOST = 999999;
    private static final int FITS_UNITS_MOST = 3;
    private static final int FITS_ITEMS = 6;
    private static final int FITS_PEOPLE = 3;

    private static final int KIND_DEBTOR = 1;
    private static final int KIND_RED = 2;
    private static final int KIND_FAILED = 3;
    private static final int KIND_FREE = 4;
    private static final int KIND_LENDER = 5;
    private static final int KINDS = 6;
    /** For each KIND the set of KINDS that one of it is, too. */
    private static final int[] KINDS_THAT_ONE_IS = {1, 3, 7, 15, 17, 49};

    private final Row[] rows;
    private final Reader reader;
    private int latestFault;
    private int latestFinding;
    private final Town town;
    private final Town foretold;
    private final Acts acts;
    private final Town[] images;
    private final Asks asks;
    private final int[] needs;

    public DebtFronts() {
        rows = new Row[ROWS];
        for (int r = 0; r < ROWS; r++) {
            rows[r] = new Row();
        }
        reader = new Reader();
        town = new Town();
        foretold = new Town();
        acts = new Acts();
        images = new Town[IMAGES];
        for (int k = 0; k < IMAGES; k++) {
            images[k] = new Town();
        }
        asks = new Asks();
        needs = new int[PEOPLE_MOST];
    }

    // ---- rows

    public int row(int row, int lane, int n) {
        if (isNoRow(row) || lane < LANE_BYTES || lane > LANE_INTS || n > ITEMS_MOST) {
            return BAD;
        }
        if (n < 0) {
            return found(FINDING_SIZE);
        }
        rows[row].begin(lane, n);
        return foundNothing(n);
    }

    public int set(int row, int i, int v) {
        if (isNoRow(row)) {
            return BAD;
        }
        Row items = rows[row];
        if (items.isMissing()) {
            return found(FINDING_NULL);
        }
        if (!items.hasRange(i, 1)) {
            return found(FINDING_PLACE);
        }
        return foundNothing(items.put(i, v));
    }

    public int copy(int a, int i, int b, int j, int n) {
        if (isNoRow(a) || isNoRow(b)) {
            return BAD;
        }
        Row from = rows[a];
        Row to = rows[b];
        if (from.isMissing() || to.isMissing()) {
            return found(FINDING_NULL);
        }
        if (from.lane != to.lane) {
            return found(FINDING_STORE);
        }
        if (!from.hasRange(i, n) || !to.hasRange(j, n)) {
            return found(FINDING_PLACE);
        }
        System.arraycopy(from.items, i, to.items, j, n);
        return foundNothing(n);
    }

    public int drop(int row) {
        if (isNoRow(row)) {
            return BAD;
        }
        Row items = rows[row];
        if (items.isMissing()) {
            return found(FINDING_NULL);
        }
        int had = items.length;
        items.vanish();
        return foundNothing(had);
    }

    // ---- towns, acts

    public int feed(long w, int n) {
        if (n < 1 || n > FEED_MOST) {
            return BAD;
        }
        if (reader.length + n > TAPE_MOST) {
            return FULL;
        }
        for (int left = n - 1; left >= 0; left--) {
            reader.tape[reader.length] = (byte) (w >> (8 * left));
            reader.length++;
        }
        return reader.length;
    }

    public int town() {
        boolean isRead = reader.readsTown();
        reader.length = 0;
        if (!isRead) {
            latestFault = reader.fault;
            return FAULT_AT - reader.start;
        }
        town.becomes(reader.draft);
        acts.forgetAll();
        return town.people;
    }

    public int fault() {
        return latestFault;
    }

    public int loan(int a, int b, int n) {
        if (isNoPair(a, b) || n < 1 || n > LOAN_MOST) {
            return BAD;
        }
        if (town.cash[b] < n) {
            return STATE;
        }
        int debt = town.debtOf(a, b) + n;
        if (debt > DEBT_MOST) {
            return FULL;
        }
        acts.keep(town);
        town.lends(b, a, n);
        return debt;
    }

    public int pay(int a, int b, int n) {
        if (isNoPair(a, b) || n < 1 || n > DEBT_MOST) {
            return BAD;
        }
        if (town.debtOf(a, b) < n || town.cash[a] < n) {
            return STATE;
        }
        acts.keep(town);
        town.paysBack(a, b, n);
        return town.debtOf(a, b);
    }

    public int paint(int person, int v) {
        if (isNoPerson(person) || v < 0 || v > SHADE_MOST) {
            return BAD;
        }
        int looked = town.looksOf(person);
        acts.keep(town);
        town.painted[person] = v;
        return looked;
    }

    public int hedge(int person, int is) {
        if (isNoPerson(person) || is < 0 || is > 1) {
            return BAD;
        }
        int was = bitOf(town.hidden, person);
        acts.keep(town);
        town.hidden = (town.hidden & ~(1 << person)) | (is << person);
        return was;
    }

    public int quarter(int seed) {
        if (isNoTown()) {
            return STATE;
        }
        if (seed < 0 || seed > SEED_MOST) {
            return BAD;
        }
        if (town.quarters >= QUARTERS_MOST) {
            return FULL;
        }
        acts.keep(town);
        town.passQuarter(seed);
        return town.quarters;
    }

    public int undo() {
        if (acts.kept == 0) {
            return STATE;
        }
        acts.takeBack(town);
        return acts.kept;
    }

    public int person(int person, int what) {
        if (isNoPerson(person)) {
            return BAD;
        }
        if (what >= 10 && what < 10 + town.people) {
            return town.debtOf(person, what - 10);
        }
        switch (what) {
            case 0:
                return town.cash[person];
            case 1:
                return town.income[person];
            case 2:
                return town.owedBy(person);
            case 3:
                return town.shadeOf(person);
            case 4:
                return town.looksOf(person);
            case 5:
                return bitOf(town.hidden, person);
            case 6:
                return bitOf(town.failed, person);
            case 7:
                return town.owedTo(person) - town.owedBy(person);
            default:
                return BAD;
        }
    }

    // ---- foretold

    public int fits(int row, int i, int m) {
        if (isNoRow(row) || m < 0 || m > FITS_UNITS_MOST) {
            return BAD;
        }
        Row told = rows[row];
        if (told.isMissing()) {
            return found(FINDING_NULL);
        }
        if (!told.hasRange(i, FITS_ITEMS)) {
            return found(FINDING_PLACE);
        }
        if (!areShadesAndNets(told.items, i)) {
            return BAD;
        }
        return foundNothing(waysToFit(told.items, i, m));
    }

    public int hiding(int what) {
        if (isNoTown()) {
            return STATE;
        }
        if (what < 0 || what > 1) {
            return BAD;
        }
        foretold.becomes(town);
        int struck = foretold.strikeOutMutual();
        return what == 1 ? struck : peopleForetoldPaler();
    }

    public int clear(int c) {
        if (isNoTown()) {
            return STATE;
        }
        if (c < 0 || c > COIN_MOST) {
            return BAD;
        }
        int able = gatherNeeds();
        int left = c;
        for (int k = 0; k < able; k++) {
            if (needs[k] > left) {
                return k;
            }
            left -= needs[k];
        }
        return able;
    }

    public int coin(int k) {
        if (isNoTown()) {
            return STATE;
        }
        if (k < 0 || k > PEOPLE_MOST) {
            return BAD;
        }
        if (k > gatherNeeds()) {
            return NONE;
        }
        int sum = 0;
        for (int i = 0; i < k; i++) {
            sum += needs[i];
        }
        return sum;
    }

    public int run(int t, int what) {
        if (isNoTown()) {
            return STATE;
        }
        if (t < 1 || t > SHADE_MOST || what < 0 || what > 2) {
            return BAD;
        }
        foretold.becomes(town);
        int called = town.seenFrom(t);
        int isNew = called;
        int owing = 0;
        int rounds = 0;
        // each round but the last calls one more at least, so there are no more rounds than people
        while (isNew != 0 && rounds <= PEOPLE_MOST) {
            rounds++;
            owing = foretold.settleAll(called);
            isNew = foretold.lendersOf(owing) & ~called;
            called |= isNew;
        }
        if (what == 0) {
            return rounds;
        }
        return what == 1 ? owing : called;
    }

    public int cheats() {
        if (isNoTown()) {
            return STATE;
        }
        int people = 0;
        for (int p = 0; p < town.people; p++) {
            if (town.looksOf(p) < town.shadeOf(p)) {
                people |= 1 << p;
            }
        }
        return people;
    }

    public int walk(int a, int b) {
        if (isNoPerson(a) || isNoPerson(b) || a > b) {
            return BAD;
        }
        int palest = NONE;
        int least = SHADE_MOST + 1;
        for (int p = a; p <= b; p++) {
            if (bitOf(town.hidden, p) == 0 && town.looksOf(p) < least) {
                least = town.looksOf(p);
                palest = p;
            }
        }
        return palest;
    }

    public int image(int k) {
        if (k < 0 || k >= IMAGES) {
            return BAD;
        }
        if (isNoTown()) {
            return STATE;
        }
        images[k].becomes(town);
        return 1;
    }

    public int restore(int k) {
        if (k < 0 || k >= IMAGES) {
            return BAD;
        }
        if (images[k].people == 0) {
            return STATE;
        }
        town.becomes(images[k]);
        acts.forgetAll();
        return 1;
    }

    // ---- asked

    public int kind(int person) {
        if (isNoPerson(person)) {
            return BAD;
        }
        return town.kindOf(person);
    }

    public int as(int person, int kind) {
        if (isNoPerson(person) || kind < 0 || kind >= KINDS) {
            return BAD;
        }
        if (bitOf(KINDS_THAT_ONE_IS[town.kindOf(person)], kind) == 0) {
            return found(FINDING_KIND);
        }
        return foundNothing(person);
    }

    public int ask(int person, int what) {
        if (isNoPerson(person) || what < 0 || what > 1) {
            return BAD;
        }
        return asks.answerOf(town, person, what);
    }

    public int trace(int i) {
        if (i < 0 || i >= asks.traced) {
            return NONE;
        }
        return asks.bodies[i];
    }

    public int count(int what) {
        switch (what) {
            case 0:
                return rowsThere();
            case 1:
                return town.people;
            case 2:
                return town.debtsAboveNone();
            case 3:
                return town.quarters;
            case 4:
                return acts.kept;
            case 5:
                return town.cashOfAll();
            case 6:
                return reader.length;
            default:
                return BAD;
        }
    }

    public int status() {
        return latestFinding;
    }

    // ---- helpers

    private int found(int finding) {
        latestFinding = finding;
        return FINDING - finding;
    }

    private int foundNothing(int answer) {
        latestFinding = 0;
        return answer;
    }

    private static boolean isNoRow(int row) {
        return row < 0 || row >= ROWS;
    }

    /** A TOWN has one PERSON at least, so one without PEOPLE is none. */
    private boolean isNoTown() {
        return town.people == 0;
    }

    private boolean isNoPerson(int person) {
        return person < 0 || person >= town.people;
    }

    private boolean isNoPair(int a, int b) {
        return isNoPerson(a) || isNoPerson(b) || a == b;
    }

    private static int bitOf(int bits, int place) {
        return (bits >> place) & 1;
    }

    private int rowsThere() {
        int there = 0;
        for (int r = 0; r < ROWS; r++) {
            if (!rows[r].isMissing()) {
                there++;
            }
        }
        return there;
    }

    private static boolean areShadesAndNets(int[] items, int i) {
        for (int k = 0; k < FITS_PEOPLE; k++) {
            int shade = items[i + k];
            int net = items[i + FITS_PEOPLE + k];
            if (shade < 0 || shade > SHADE_MOST || net < -NET_MOST || net > NET_MOST) {
                return false;
            }
        }
        return true;
    }

    /** Two debts of one man are at most 6 UNITS, so a SHADE is their sum, and one of them tells the other. */
    private static int waysToFit(int[] items, int i, int m) {
        int ways = 0;
        for (int ab = 0; ab <= m; ab++) {
            int ac = items[i] - ab;
            for (int ba = 0; ba <= m; ba++) {
                int bc = items[i + 1] - ba;
                for (int ca = 0; ca <= m; ca++) {
                    int cb = items[i + 2] - ca;
                    boolean are = isWithin(ac, m) && isWithin(bc, m) && isWithin(cb, m);
                    if (are && ba + ca - ab - ac == items[i + 3] && ab + cb - ba - bc == items[i + 4]
                            && ac + bc - ca - cb == items[i + 5]) {
                        ways++;
                    }
                }
            }
        }
        return ways;
    }

    private static boolean isWithin(int units, int m) {
        return units >= 0 && units <= m;
    }

    private int peopleForetoldPaler() {
        int people = 0;
        for (int p = 0; p < town.people; p++) {
            if (foretold.shadeOf(p) < town.shadeOf(p)) {
                people |= 1 << p;
            }
        }
        return people;
    }

    /** Puts what each needs to be a shade paler into needs, the least first: how many there are. */
    private int gatherNeeds() {
        int gathered = 0;
        for (int p = 0; p < town.people; p++) {
            int shade = town.shadeOf(p);
            if (shade >= 1) {
                int need = town.owedBy(p) - (shade * town.unit - 1);
                int at = gathered;
                while (at > 0 && needs[at - 1] > need) {
                    needs[at] = needs[at - 1];
                    at--;
                }
                needs[at] = need;
                gathered++;
            }
        }
        return gathered;
    }

    /** A ROW: its room is made once, whatever LANE it has later. */
    private static final class Row {
        final int[] items;
        int lane;
        int length;

        Row() {
            items = new int[ITEMS_MOST];
            lane = LANE_MISSING;
            length = 0;
        }

        boolean isMissing() {
            return lane == LANE_MISSING;
        }

        void begin(int newLane, int n) {
            lane = newLane;
            length = n;
            for (int i = 0; i < n; i++) {
                items[i] = 0;
            }
        }

        void vanish() {
            lane = LANE_MISSING;
            length = 0;
        }

        boolean hasRange(int from, int n) {
            return from >= 0 && n >= 0 && from <= length - n;
        }

        int put(int i, int v) {
            if (lane == LANE_BYTES) {
                items[i] = (byte) v;
            } else if (lane == LANE_SHORTS) {
                items[i] = (short) v;
            } else {
                items[i] = v;
            }
            return items[i];
        }
    }

    /** A TOWN at one time; without PEOPLE: none. */
    private static final class Town {
        final int[] cash;
        final int[] income;
        final int[] painted;
        final int[] debts;
        int people;
        int unit;
        int rate;
        int quarters;
        int hidden;
        int failed;

        Town() {
            cash = new int[PEOPLE_MOST];
            income = new int[PEOPLE_MOST];
            painted = new int[PEOPLE_MOST];
            debts = new int[PEOPLE_MOST * PEOPLE_MOST];
            unit = 1;
        }

        void becomes(Town other) {
            System.arraycopy(other.cash, 0, cash, 0, PEOPLE_MOST);
            System.arraycopy(other.income, 0, income, 0, PEOPLE_MOST);
            System.arraycopy(other.painted, 0, painted, 0, PEOPLE_MOST);
            System.arraycopy(other.debts, 0, debts, 0, PEOPLE_MOST * PEOPLE_MOST);
            people = other.people;
            unit = other.unit;
            rate = other.rate;
            quarters = other.quarters;
            hidden = other.hidden;
            failed = other.failed;
        }

        void becomesEmpty() {
            for (int d = 0; d < PEOPLE_MOST * PEOPLE_MOST; d++) {
                debts[d] = 0;
            }
            people = 0;
            unit = 1;
            rate = 0;
            quarters = 0;
            hidden = 0;
            failed = 0;
        }

        void settlesIn(int hisCash, int hisIncome, boolean hasHedge) {
            if (people >= PEOPLE_MOST) {
                return;
            }
            cash[people] = hisCash;
            income[people] = hisIncome;
            painted[people] = NOT_PAINTED;
            if (hasHedge) {
                hidden |= 1 << people;
            }
            people++;
        }

        int debtOf(int a, int b) {
            return debts[a * PEOPLE_MOST + b];
        }

        void owesMore(int a, int b, int n) {
            debts[a * PEOPLE_MOST + b] += n;
        }

        int owedBy(int p) {
            int owed = 0;
            for (int b = 0; b < people; b++) {
                owed += debtOf(p, b);
            }
            return owed;
        }

        int owedTo(int p) {
            int owed = 0;
            for (int a = 0; a < people; a++) {
                owed += debtOf(a, p);
            }
            return owed;
        }

        int shadeOf(int p) {
            return unit < 1 ? 0 : Math.min(owedBy(p) / unit, SHADE_MOST);
        }

        int looksOf(int p) {
            return painted[p] == NOT_PAINTED ? shadeOf(p) : painted[p];
        }

        int debtsAboveNone() {
            int above = 0;
            for (int a = 0; a < people; a++) {
                for (int b = 0; b < people; b++) {
                    if (debtOf(a, b) > 0) {
                        above++;
                    }
                }
            }
            return above;
        }

        int cashOfAll() {
            int all = 0;
            for (int p = 0; p < people; p++) {
                all += cash[p];
            }
            return all;
        }

        int kindOf(int p) {
            if (bitOf(failed, p) == 1) {
                return KIND_FAILED;
            }
            if (owedBy(p) > 0) {
                return shadeOf(p) >= SHADE_RED ? KIND_RED : KIND_DEBTOR;
            }
            return owedTo(p) > 0 ? KIND_LENDER : KIND_FREE;
        }

        void lends(int lender, int debtor, int n) {
            cash[lender] -= n;
            cash[debtor] += n;
            owesMore(debtor, lender, n);
        }

        void paysBack(int a, int b, int n) {
            cash[a] -= n;
            cash[b] += n;
            owesMore(a, b, -n);
        }

        /** One is TO PAY: how much he paid. */
        int settle(int p) {
            int paid = 0;
            for (int b = 0; b < people; b++) {
                int n = Math.min(cash[p], debtOf(p, b));
                paysBack(p, b, n);
                paid += n;
            }
            return paid;
        }

        /** Each of some is TO PAY: those who owe something yet. */
        int settleAll(int some) {
            int owing = 0;
            for (int p = 0; p < people; p++) {
                if (bitOf(some, p) == 1) {
                    settle(p);
                    if (owedBy(p) > 0) {
                        owing |= 1 << p;
                    }
                }
            }
            return owing;
        }

        int lendersOf(int some) {
            int lenders = 0;
            for (int a = 0; a < people; a++) {
                for (int b = 0; b < people; b++) {
                    if (bitOf(some, a) == 1 && debtOf(a, b) > 0) {
                        lenders |= 1 << b;
                    }
                }
            }
            return lenders;
        }

        int seenFrom(int t) {
            int seen = 0;
            for (int p = 0; p < people; p++) {
                if (bitOf(hidden, p) == 0 && looksOf(p) >= t) {
                    seen |= 1 << p;
                }
            }
            return seen;
        }

        /** Of each two who owe one another the lesser debt goes from both: how much in all. */
        int strikeOutMutual() {
            int struck = 0;
            for (int a = 0; a < people; a++) {
                for (int b = a + 1; b < people; b++) {
                    int lesser = Math.min(debtOf(a, b), debtOf(b, a));
                    owesMore(a, b, -lesser);
                    owesMore(b, a, -lesser);
                    struck += 2 * lesser;
                }
            }
            return struck;
        }

        void passQuarter(int seed) {
            quarters++;
            incomesCome(seed);
            allSettle();
            if (quarters % QUARTERS_TO_WHITE == 0) {
                smallDebtsAreForgiven();
            } else {
                debtsGrow();
            }
            for (int p = 0; p < people; p++) {
                painted[p] = NOT_PAINTED;
            }
        }

        private void incomesCome(int seed) {
            long x = seed;
            for (int p = 0; p < people; p++) {
                x = x * 16807 % 2147483647;
                cash[p] += seed == 0 ? income[p] : drawn(x, income[p]);
            }
        }

        private static int drawn(long x, int most) {
            return most < 0 ? 0 : (int) (x % (most + 1));
        }

        private void allSettle() {
            for (int p = 0; p < people; p++) {
                boolean owed = owedBy(p) > 0;
                boolean paid = settle(p) > 0;
                if (owed && !paid) {
                    failed |= 1 << p;
                }
                if (owedBy(p) == 0) {
                    failed &= ~(1 << p);
                }
            }
        }

        private void smallDebtsAreForgiven() {
            for (int d = 0; d < PEOPLE_MOST * PEOPLE_MOST; d++) {
                if (debts[d] < unit) {
                    debts[d] = 0;
                }
            }
        }

        private void debtsGrow() {
            for (int d = 0; d < PEOPLE_MOST * PEOPLE_MOST; d++) {
                debts[d] = Math.min(debts[d] + rate * debts[d] / 100, DEBT_MOST);
            }
        }
    }

    /** The TOWN as it was ahead of each ACT that can be undone, in a ring: the newest takes the oldest one's place. */
    private static final class Acts {
        final Town[] ahead;
        int next;
        int kept;

        Acts() {
            ahead = new Town[ACTS_MOST];
            for (int i = 0; i < ACTS_MOST; i++) {
                ahead[i] = new Town();
            }
        }

        void forgetAll() {
            next = 0;
            kept = 0;
        }

        void keep(Town now) {
            ahead[next].becomes(now);
            next = next + 1 < ACTS_MOST ? next + 1 : 0;
            kept = Math.min(kept + 1, ACTS_MOST);
        }

        void takeBack(Town now) {
            next = next > 0 ? next - 1 : ACTS_MOST - 1;
            kept--;
            now.becomes(ahead[next]);
        }
    }

    /** THE TAPE, read into a draft, so that a FAULT leaves the TOWN as it is. */
    private static final class Reader {
        private static final int END = 0;
        private static final int NAME = 1;
        private static final int NUMBER = 2;
        private static final int SIGN = 3;
        private static final int NO_TOKEN = 4;
        private static final int FIGURES_MOST = 3;

        private static final int FAULT_STANDS_NOT = 1;
        private static final int FAULT_NUMBER = 2;
        private static final int FAULT_ROOM = 3;
        private static final int ANY = -1;

        final byte[] tape;
        final Town draft;
        int length;
        int sort;
        int start;
        int end;
        int value;
        int taken;
        int fault;

        Reader() {
            tape = new byte[TAPE_MOST];
            draft = new Town();
        }

        /** Where it answers false, the TOKEN that begins at start has the fault. */
        boolean readsTown() {
            end = 0;
            draft.becomesEmpty();
            toNextToken();
            if (!readsLaw() || !readsPeople() || !readsDebts()) {
                return false;
            }
            return sort == END || hasFault(FAULT_STANDS_NOT);
        }

        private boolean readsLaw() {
            if (!takesWord("law") || !takesNumber(1, 20, ANY)) {
                return false;
            }
            draft.unit = taken;
            if (!takesNumber(0, 20, ANY)) {
                return false;
            }
            draft.rate = taken;
            return takesSign();
        }

        private boolean readsPeople() {
            if (!isAtWord("person")) {
                return hasFault(FAULT_STANDS_NOT);
            }
            for (int told = 0; told < PEOPLE_MOST && isAtWord("person"); told++) {
                if (!readsPerson()) {
                    return false;
                }
            }
            return !isAtWord("person") || hasFault(FAULT_ROOM);
        }

        private boolean readsPerson() {
            if (!takesWord("person") || !takesNumber(0, 999, ANY)) {
                return false;
            }
            int cash = taken;
            if (!takesNumber(0, 99, ANY)) {
                return false;
            }
            int income = taken;
            boolean hasHedge = isAtWord("hedge");
            if (!takesWord(hasHedge ? "hedge" : "open")) {
                return false;
            }
            draft.settlesIn(cash, income, hasHedge);
            return takesSign();
        }

        private boolean readsDebts() {
            for (int told = 0; told < DEBTS_TOLD_MOST && isAtWord("owes"); told++) {
                if (!readsDebt()) {
                    return false;
                }
            }
            return !isAtWord("owes") || hasFault(FAULT_ROOM);
        }

        private boolean readsDebt() {
            if (!takesWord("owes") || !takesNumber(0, draft.people - 1, ANY)) {
                return false;
            }
            int a = taken;
            if (!takesNumber(0, draft.people - 1, a)) {
                return false;
            }
            int b = taken;
            if (!takesNumber(1, 999, ANY)) {
                return false;
            }
            draft.owesMore(a, b, taken);
            return takesSign();
        }

        private boolean hasFault(int number) {
            fault = number;
            return false;
        }

        private boolean isAtWord(String word) {
            if (sort != NAME || end - start != word.length()) {
                return false;
            }
            for (int i = 0; i < word.length(); i++) {
                if (tape[start + i] != word.charAt(i)) {
                    return false;
                }
            }
            return true;
        }

        private boolean takesWord(String word) {
            if (!isAtWord(word)) {
                return hasFault(FAULT_STANDS_NOT);
            }
            toNextToken();
            return true;
        }

        private boolean takesSign() {
            if (sort != SIGN) {
                return hasFault(FAULT_STANDS_NOT);
            }
            toNextToken();
            return true;
        }

        private boolean takesNumber(int least, int most, int notThis) {
            if (sort != NUMBER) {
                return hasFault(FAULT_STANDS_NOT);
            }
            if (value < least || value > most || value == notThis) {
                return hasFault(FAULT_NUMBER);
            }
            taken = value;
            toNextToken();
            return true;
        }

        private void toNextToken() {
            start = end;
            while (start < length && isBlank(tape[start])) {
                start++;
            }
            end = start;
            if (start >= length) {
                sort = END;
            } else if (isLetter(tape[start])) {
                endName();
            } else if (isFigure(tape[start])) {
                endNumber();
            } else {
                sort = tape[start] == ';' ? SIGN : NO_TOKEN;
                end = start + 1;
            }
        }

        private void endName() {
            while (end < length && isLetter(tape[end])) {
                end++;
            }
            sort = NAME;
        }

        private void endNumber() {
            value = 0;
            while (end < length && isFigure(tape[end])) {
                // beyond three figures it is no NUMBER, and its value is not asked for
                if (end - start < FIGURES_MOST) {
                    value = 10 * value + tape[end] - '0';
                }
                end++;
            }
            sort = end - start <= FIGURES_MOST ? NUMBER : NO_TOKEN;
        }

        private static boolean isBlank(int c) {
            return c == 32 || c == 10;
        }

        private static boolean isLetter(int c) {
            return c >= 'a' && c <= 'z';
        }

        private static boolean isFigure(int c) {
            return c >= '0' && c <= '9';
        }
    }

    /** The BODIES of the ASKS, and THE TRACE that they leave. */
    private static final class Asks {
        /** For each KIND the BODY that begins: its own, or that of the nearest KIND that it is, too. */
        private static final int[] SIZE_BODIES = {10, 11, 11, 12, 13, 14};
        private static final int[] MARK_BODIES = {20, 21, 22, 24, 23, 23};
        /** The longest chain is 12 11 24 22 21 20: nothing told goes deeper. */
        private static final int DEPTH_MOST = 8;

        final int[] bodies;
        int traced;

        Asks() {
            bodies = new int[TRACE_MOST];
        }

        int answerOf(Town town, int p, int what) {
            traced = 0;
            int kind = town.kindOf(p);
            return body(what == 0 ? SIZE_BODIES[kind] : MARK_BODIES[kind], town, p, 0);
        }

        private int body(int number, Town town, int p, int depth) {
            if (depth >= DEPTH_MOST) {
                return 0;
            }
            begins(number);
            int next = depth + 1;
            switch (number) {
                case 10:
                    return town.cash[p];
                case 11:
                    return body(10, town, p, next) + body(MARK_BODIES[town.kindOf(p)], town, p, next);
                case 12:
                    return -body(11, town, p, next);
                case 13:
                    return body(10, town, p, next) - 100;
                case 14:
                    return 2 * body(13, town, p, next);
                case 20:
                    return p;
                case 21:
                    return body(20, town, p, next) + town.owedBy(p);
                case 22:
                    return body(21, town, p, next) - 1000;
                case 23:
                    return body(20, town, p, next) - body(SIZE_BODIES[town.kindOf(p)], town, p, next);
                case 24:
                    return 2 * body(22, town, p, next);
                default:
                    return 0;
            }
        }

        private void begins(int number) {
            if (traced < TRACE_MOST) {
                bodies[traced] = number;
                traced++;
            }
        }
    }
}
