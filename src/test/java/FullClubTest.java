import java.util.Arrays;
import java.util.Random;

/**
 * Random clubs of nine to twelve people, which are too many for the model of PlainModelTest. The NEEDS are those
 * that need() tells; RINGS are found by trying all rows of all sets, and PLANS by a table over all sets of people,
 * with RINGS that could be two RINGS among them.
 */
public final class FullClubTest {
    private static final int CLUBS = 420;
    private static final int NO_RING = -1;
    private static final int UNSURE = -999;
    private static final int[] SEEN = new int[6];
    private static int wrong = 0;
    private static int answers = 0;

    private final int seed;
    private final Random random;
    private final OddShoes club = new OddShoes();
    private final int makers;
    private final int people;
    private final int[][] prices = new int[4][8];
    private final int[][] lengths = new int[12][2];
    private final int[] shifts = new int[4];
    private final int[] feet = new int[12];
    private final int[] likes = new int[12];
    private final int[] grows = new int[12];
    private final int[] lasts = new int[12];
    private final int[] bars = new int[12];
    private final int[] shod = new int[12];
    private final int[] wait = new int[12];
    private final int[] came = new int[12];
    private final boolean[] gone = new boolean[12];
    /** By MAKER, PERSON and side the NEED when that one came, or UNSURE. */
    private final int[][][] sure = new int[4][12][2];
    /** No more than 512 may be made. */
    private int calls = 0;
    private int here = 0;
    private int month = 0;
    private int base = 100;
    private int per = 10;

    /** By set of people: what its RING is, as all was when rings were looked for. */
    private final int[] costs = new int[4096];
    private final int[] kinds = new int[4096];
    private final int[][] rows = new int[4096][];
    /** By set of people: the best PLAN for them alone, and the set that its least one is in. */
    private final long[] bestWorth = new long[4096];
    private final long[] bestCost = new long[4096];
    private final int[] choice = new int[4096];

    public static void main(String[] args) {
        for (int seed = 0; seed < CLUBS && wrong < 20; seed++) {
            new FullClubTest(seed).go();
        }
        String[] least = {"plans of ten people or more", "plans of four rings or more", "rings of four or five",
            "rings that could be two", "people ahead", "plans with one-footed people"};
        int[] enough = {30, 100, 60, 1000, 1000, 100};
        for (int i = 0; i < least.length; i++) {
            if (SEEN[i] < enough[i]) {
                wrong++;
                System.out.println("too few " + least[i] + ": " + SEEN[i]);
            }
        }
        System.out.println(wrong == 0 ? answers + " answers of full clubs are as due" : wrong + " answers are wrong");
        if (wrong != 0) {
            System.exit(1);
        }
    }

    private FullClubTest(int seed) {
        this.seed = seed;
        random = new Random(seed * 104729L + 5);
        makers = 1 + random.nextInt(4);
        people = 9 + random.nextInt(4);
    }

    private void due(String call, long got, long want) {
        answers++;
        calls++;
        if (got != want) {
            wrong++;
            System.out.println("club " + seed + ": " + call + " answered " + got + ", due is " + want);
        }
    }

    private void go() {
        open();
        tryOn();
        for (int round = 0; round < 3; round++) {
            passMonths(random.nextInt(3));
            askRings();
            int n = random.nextInt(13);
            due("ahead(" + n + ")", club.ahead(n), ahead(n));
            checkPlan();
        }
        if (calls + makers > 512) {
            wrong++;
            System.out.println("club " + seed + ": " + calls + " calls");
        }
    }

    private void open() {
        for (int m = 0; m < makers; m++) {
            club.maker();
            shifts[m] = m == 0 ? 0 : random.nextInt(7) - 3;
            for (int k = 0; k < 3; k++) {
                int style = random.nextInt(4);
                prices[m][style] = 1 + random.nextInt(seed % 2 == 0 ? 3 : 60);
                due("price", club.price(m, style, prices[m][style]) ? 1 : 0, 1);
            }
        }
        boolean inLoops = seed % 3 == 0;
        int kinds = inLoops ? 3 + random.nextInt(3) : 2 + random.nextInt(4);
        for (int p = 0; p < people; p++) {
            passMonths(random.nextInt(4) == 0 ? 1 : 0);
            feet[p] = !inLoops && random.nextInt(4) == 0 ? 1 + random.nextInt(2) : 3;
            likes[p] = random.nextInt(inLoops ? 9 : 3) == 0 ? 1 + random.nextInt(15) : 15;
            grows[p] = random.nextInt(inLoops ? 30 : 8) == 0 ? 1 + random.nextInt(6) : 0;
            lasts[p] = 1 + random.nextInt(5);
            came[p] = month;
            lengths[p][0] = 10 + (inLoops ? p % kinds : random.nextInt(kinds));
            lengths[p][1] = 10 + (inLoops ? (p + 1) % kinds : random.nextInt(kinds));
            due("person", club.person((feet[p] & 1) != 0, (feet[p] & 2) != 0, likes[p], grows[p], lasts[p]), p);
            here++;
        }
        for (int i = random.nextInt(5); i > 0; i--) {
            putBar(random.nextInt(people), random.nextInt(people));
        }
        if (random.nextInt(3) == 0) {
            base = 1 + random.nextInt(20);
            per = random.nextInt(4);
            due("terms", club.terms(base, per) ? 1 : 0, 1);
        }
        if (random.nextInt(5) == 0) {
            int p = random.nextInt(people);
            due("gone", club.gone(p) ? 1 : 0, 1);
            gone[p] = true;
            shod[p] = 0;
            wait[p] = 0;
        }
    }

    private void putBar(int a, int b) {
        boolean is = a != b && (bars[a] >> b & 1) == 0;
        due("bar(" + a + ", " + b + ")", club.bar(a, b, true) ? 1 : 0, is ? 1 : 0);
        if (is) {
            bars[a] |= 1 << b;
            bars[b] |= 1 << a;
        }
    }

    /** Each foot by one MAKER, and some by more, so that some SHIFTS are known and some are not. */
    private void tryOn() {
        boolean oneMaker = random.nextBoolean();
        for (int p = 0; p < people; p++) {
            int m = oneMaker ? makers - 1 : random.nextInt(makers);
            for (int side = 0; side < 2; side++) {
                if ((feet[p] >> side & 1) != 0) {
                    tryOne(m, p, side);
                    if (random.nextInt(8) == 0) {
                        tryOne(random.nextInt(makers), p, side);
                    }
                }
            }
        }
        for (int m = 0; m < makers; m++) {
            for (int p = 0; p < people; p++) {
                for (int side = 0; side < 2; side++) {
                    sure[m][p][side] = (feet[p] >> side & 1) != 0 ? sureNeed(m, p, side) : UNSURE;
                }
            }
        }
    }

    /** As it was when the PERSON came. */
    private int sureNeed(int m, int p, int side) {
        int least = club.need(p, side, m, 0);
        calls++;
        if (least != club.need(p, side, m, 1)) {
            calls++;
            return UNSURE;
        }
        due("need", least - grown(p), lengths[p][side] - shifts[m]);
        return least - grown(p);
    }

    private void tryOne(int m, int p, int side) {
        int size = lengths[p][side] + grown(p) - shifts[m];
        due("trial is possible", club.trial(m, size, p, side, 0) >= 0 ? 1 : 0, 1);
    }

    private int grown(int p) {
        return grows[p] == 0 ? 0 : (month - came[p]) / grows[p];
    }

    private void passMonths(int n) {
        if (n > 0) {
            due("month(" + n + ")", club.month(n), month + n);
        }
        for (int i = 0; i < n; i++) {
            passMonth();
        }
    }

    private void passMonth() {
        month++;
        for (int p = 0; p < here; p++) {
            if (!gone[p]) {
                wait[p] = shod[p] > 0 ? 0 : wait[p] + 1;
                shod[p] = Math.max(0, shod[p] - 1);
            }
        }
    }

    private void findRings() {
        for (int set = 1; set < 1 << people; set++) {
            costs[set] = NO_RING;
            if (Integer.bitCount(set) <= 5 && allWaitWithoutBars(set)) {
                for (int m = 0; m < makers; m++) {
                    int[] row = firstRow(set, m);
                    for (int style = 0; style < 8 && row != null; style++) {
                        enter(set, m, style, row);
                    }
                }
            }
        }
    }

    private boolean allWaitWithoutBars(int set) {
        for (int p = 0; p < people; p++) {
            if ((set >> p & 1) != 0 && (gone[p] || shod[p] > 0 || (bars[p] & set) != 0)) {
                return false;
            }
        }
        return true;
    }

    private void enter(int set, int m, int style, int[] row) {
        int pairs = 0;
        for (int p : row) {
            if ((likes[p] >> style & 1) == 0) {
                return;
            }
            pairs += feet[p] & 1;
        }
        int cost = prices[m][style] * pairs;
        if (prices[m][style] > 0 && (costs[set] == NO_RING || cost < costs[set])) {
            costs[set] = cost;
            kinds[set] = m * 8 + style;
            rows[set] = row;
        }
    }

    private int[] firstRow(int set, int m) {
        int[] members = new int[Integer.bitCount(set)];
        int n = 0;
        for (int p = 0; p < people; p++) {
            if ((set >> p & 1) != 0) {
                for (int side = 0; side < 2; side++) {
                    int need = needBy(m, p, side);
                    if (need != 0 && (need < 1 || need > 60)) {
                        return null;
                    }
                }
                members[n++] = p;
            }
        }
        return firstFrom(members, 1, m) ? members : null;
    }

    /** 0 for a foot that is not there. */
    private int needBy(int m, int p, int side) {
        if ((feet[p] >> side & 1) == 0) {
            return 0;
        }
        return sure[m][p][side] == UNSURE ? UNSURE : sure[m][p][side] + grown(p);
    }

    /** Rearranges the row from an index on, by numbers; what stands there is in order at first and if none is found. */
    private boolean firstFrom(int[] row, int at, int m) {
        if (at == row.length) {
            for (int i = 0; i < row.length; i++) {
                if (needBy(m, row[i], 1) != needBy(m, row[(i + 1) % row.length], 0)) {
                    return false;
                }
            }
            return true;
        }
        int[] before = row.clone();
        for (int k = at; k < row.length; k++) {
            row[at] = before[k];
            for (int i = at; i < k; i++) {
                row[i + 1] = before[i];
            }
            if (firstFrom(row, at + 1, m)) {
                return true;
            }
            System.arraycopy(before, 0, row, 0, row.length);
        }
        return false;
    }

    /** Of each set of people the best PLAN for them alone: the set of its least one, 0 for none. */
    private void findPlans() {
        findRings();
        for (int open = 1; open < 1 << people; open++) {
            int least = open & -open;
            bestWorth[open] = bestWorth[open - least];
            bestCost[open] = bestCost[open - least];
            choice[open] = 0;
            int others = open - least;
            int[] sets = new int[0];
            for (int more = others; ; more = (more - 1) & others) {
                int set = more | least;
                if (Integer.bitCount(set) <= 5 && costs[set] != NO_RING) {
                    sets = Arrays.copyOf(sets, sets.length + 1);
                    sets[sets.length - 1] = set;
                }
                if (more == 0) {
                    break;
                }
            }
            Arrays.sort(sets);
            for (int set : sets) {
                long worth = worthOf(set) + bestWorth[open & ~set];
                long cost = costs[set] + bestCost[open & ~set];
                if (worth > bestWorth[open] || worth == bestWorth[open] && cost < bestCost[open]) {
                    bestWorth[open] = worth;
                    bestCost[open] = cost;
                    choice[open] = set;
                }
            }
        }
    }

    private long worthOf(int set) {
        long sum = 0;
        for (int p = 0; p < people; p++) {
            sum += (set >> p & 1) * (long) (base + per * wait[p]);
        }
        return sum;
    }

    private void askRings() {
        findRings();
        for (int i = 0; i < 10; i++) {
            int set = random.nextInt(1 << people);
            for (int tries = 0; tries < 400 && i % 4 != 0 && (set == 0 || costs[set] == NO_RING
                    || Integer.bitCount(set) < 3); tries++) {
                set = random.nextInt(1 << people);
            }
            boolean is = set != 0 && costs[set] != NO_RING;
            due("ring(" + set + ")", club.ring(set), is ? costs[set] : -1);
            for (int k = 0; k < 6 && i % 4 == 1; k++) {
                due("ringOf(" + k + ") of " + set, club.ringOf(k), is && k < rows[set].length ? rows[set][k] : -1);
            }
            SEEN[3] += is && hasPart(set) ? 1 : 0;
        }
    }

    private boolean hasPart(int set) {
        for (int part = (set - 1) & set; part > 0; part = (part - 1) & set) {
            if (costs[part] != NO_RING && costs[set & ~part] != NO_RING) {
                return true;
            }
        }
        return false;
    }

    private int ahead(int n) {
        int[] keptShod = shod.clone();
        int[] keptWait = wait.clone();
        int keptMonth = month;
        int all = 0;
        for (int i = 0; i < n; i++) {
            findPlans();
            for (int open = (1 << people) - 1; open != 0; open = openBehind(open)) {
                shoe(choice[open]);
                all += Integer.bitCount(choice[open]);
            }
            passMonth();
        }
        System.arraycopy(keptShod, 0, shod, 0, 12);
        System.arraycopy(keptWait, 0, wait, 0, 12);
        month = keptMonth;
        SEEN[4] += all;
        return all;
    }

    private int openBehind(int open) {
        return open & ~(choice[open] | open & -open);
    }

    private void shoe(int set) {
        for (int p = 0; p < people; p++) {
            if ((set >> p & 1) != 0) {
                shod[p] = lasts[p];
                wait[p] = 0;
            }
        }
    }

    private void checkPlan() {
        findPlans();
        int everyone = (1 << people) - 1;
        due("plan()", club.plan(), bestWorth[everyone]);
        int i = 0;
        int in = 0;
        for (int open = everyone; open != 0; open = openBehind(open)) {
            if (choice[open] != 0) {
                checkRing(i, choice[open]);
                in |= choice[open];
                i++;
            }
        }
        due("count(5)", club.count(5), i);
        due("count(6)", club.count(6), bestCost[everyone]);
        due("count(7)", club.count(7), Integer.bitCount(in));
        SEEN[0] += Integer.bitCount(in) >= 10 ? 1 : 0;
        SEEN[1] += i >= 4 ? 1 : 0;
        SEEN[5] += hasOneFooted(in) ? 1 : 0;
        due("send()", club.send(), Integer.bitCount(in));
        shoe(in);
    }

    private boolean hasOneFooted(int set) {
        for (int p = 0; p < people; p++) {
            if ((set >> p & 1) != 0 && feet[p] != 3) {
                return true;
            }
        }
        return false;
    }

    private void checkRing(int i, int set) {
        due("planOf(" + i + ", 0)", club.planOf(i, 0), set);
        due("planOf(" + i + ", 1)", club.planOf(i, 1), kinds[set] / 8);
        due("planOf(" + i + ", 2)", club.planOf(i, 2), kinds[set] % 8);
        due("planOf(" + i + ", 3)", club.planOf(i, 3), costs[set]);
        int[] row = rows[set];
        for (int k = 0; k < row.length; k++) {
            due("planOf(" + i + ", 1" + k + ")", club.planOf(i, 10 + k), row[k]);
            due("planOf(" + i + ", 2" + k + ")", club.planOf(i, 20 + k), needBy(kinds[set] / 8, row[k], 0));
        }
        SEEN[2] += row.length >= 4 ? 1 : 0;
    }
}
