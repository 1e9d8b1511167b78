import java.util.ArrayList;
import java.util.List;
import java.util.NoSuchElementException;
import java.util.Random;

/**
 * Random runs of calls, each answer beside that of a model which tries all SHIFTS, all LENGTHS, all rows and
 * all PLANS one by one, as the document words them.
 */
public final class PlainModelTest {
    private static final long THROWS = Long.MIN_VALUE;
    private static final int RUNS = 700;
    private static int wrong = 0;
    private static final long[] SEEN = new long[8];

    public static void main(String[] args) {
        for (int seed = 0; seed < RUNS && wrong < 20; seed++) {
            new Run(seed).go();
        }
        require(SEEN[0] > 500, "plans with a ring: " + SEEN[0]);
        require(SEEN[1] > 100, "plans with several rings: " + SEEN[1]);
        require(SEEN[2] > 50, "rings of three or more: " + SEEN[2]);
        require(SEEN[3] > 100, "trials that are not possible: " + SEEN[3]);
        require(SEEN[4] > 50, "shoes handed out: " + SEEN[4]);
        require(SEEN[5] > 300, "plans that were sent: " + SEEN[5]);
        require(SEEN[6] > 100, "ahead told some: " + SEEN[6]);
        require(SEEN[7] > 20, "rings with one-footed people: " + SEEN[7]);
        System.out.println(wrong == 0 ? "all answers are as the plain model's" : wrong + " answers are wrong");
        if (wrong != 0) {
            System.exit(1);
        }
    }

    /** The runs must reach what they are for. */
    private static void require(boolean is, String what) {
        if (!is) {
            wrong++;
            System.out.println("too few " + what);
        }
    }

    private static final class Run {
        private final int seed;
        private final Random random;
        private final OddShoes club = new OddShoes();
        private final Model model = new Model();
        private final List<String> calls = new ArrayList<>();
        private final boolean dense;
        private final boolean wild;
        private final boolean known;
        private final int mostPeople;
        private final int sizes;
        private final int[] secretShift = new int[4];
        private final int[][] secretLength = new int[16][2];

        Run(int seed) {
            this.seed = seed;
            random = new Random(seed * 7919L + 17);
            dense = seed % 3 == 0;
            wild = seed % 5 == 0;
            known = seed % 4 != 3;
            mostPeople = dense ? 6 : 8;
            sizes = dense ? 2 : 3;
            for (int m = 1; m < 4; m++) {
                secretShift[m] = random.nextInt(7) - 3;
            }
            for (int[] feet : secretLength) {
                feet[0] = 8 + random.nextInt(sizes);
                feet[1] = 8 + random.nextInt(sizes);
            }
        }

        void go() {
            int calls = 60 + random.nextInt(100);
            for (int i = 0; i < 1 + random.nextInt(3); i++) {
                answer("maker()", club.maker(), model.maker());
            }
            if (known) {
                begin();
            }
            for (int i = 0; i < calls && wrong < 20; i++) {
                step();
                if (i % 20 == 19) {
                    lookAtAll();
                }
            }
            lookAtAll();
        }

        /** People with feet of which most are told, and something to buy. */
        private void begin() {
            int some = 3 + random.nextInt(mostPeople - 2);
            for (int i = 0; i < some; i++) {
                person();
            }
            for (int i = 0; i < 3; i++) {
                price();
            }
            for (int i = 0; i < 4 * some; i++) {
                trial();
            }
        }

        private void answer(String call, long got, long want) {
            calls.add(call + " = " + (want == THROWS ? "throws" : "" + want));
            if (got != want) {
                wrong++;
                System.out.println("seed " + seed + ": " + call + " answered " + got + ", due is " + want);
                int from = Math.max(0, calls.size() - 60);
                System.out.println("  " + calls.subList(from, calls.size()));
            }
        }

        private int any(int least, int greatest) {
            if (wild && random.nextInt(8) == 0) {
                int[] odd = {least - 1, greatest + 1, Integer.MIN_VALUE, Integer.MAX_VALUE, -1, 99};
                return odd[random.nextInt(odd.length)];
            }
            return greatest < least ? least : least + random.nextInt(greatest - least + 1);
        }

        private int anyone() {
            return any(0, Math.max(0, model.people.size() - 1));
        }

        private int anyMaker() {
            return any(0, Math.max(0, model.makers - 1));
        }

        private int anySet() {
            int set = 0;
            int size = 1 + random.nextInt(wild ? 6 : 4);
            for (int i = 0; i < size; i++) {
                set |= 1 << random.nextInt(Math.max(1, model.people.size() + (wild ? 1 : 0)));
            }
            return wild && random.nextInt(10) == 0 ? any(0, 1) : set;
        }

        /** A set that has a RING, if one is found among some. */
        private int anyRing() {
            int set = anySet();
            for (int i = 0; i < 200 && model.ringOfSet(set) == null; i++) {
                set = random.nextInt(1 << model.people.size());
            }
            return set;
        }

        private void step() {
            int kind = random.nextInt(100);
            if (kind < 2) {
                answer("maker()", club.maker(), model.maker());
            } else if (kind < 9) {
                price();
            } else if (kind < 18) {
                person();
            } else if (kind < 21) {
                int a = anyone();
                int b = anyone();
                boolean is = random.nextInt(3) == 0;
                answer("bar(" + a + ", " + b + ", " + is + ")", bit(club.bar(a, b, is)), bit(model.bar(a, b, is)));
            } else if (kind < 23) {
                int a = anyone();
                int styles = any(1, 7);
                answer("likes(" + a + ", " + styles + ")", bit(club.likes(a, styles)), bit(model.likes(a, styles)));
            } else if (kind < 24) {
                if (random.nextInt(3) == 0) {
                    int a = anyone();
                    answer("gone(" + a + ")", bit(club.gone(a)), bit(model.gone(a)));
                }
            } else if (kind < 54) {
                trial();
            } else if (kind < 57) {
                int a = any(0, Math.max(0, model.trials.size() - 1));
                answer("unsay(" + a + ")", bit(club.unsay(a)), bit(model.unsay(a)));
            } else if (kind < 59) {
                int b = any(1, 1000) % (wild ? 2000 : 50);
                int p = any(0, 20);
                answer("terms(" + b + ", " + p + ")", bit(club.terms(b, p)), bit(model.terms(b, p)));
            } else if (kind < 68) {
                ring(random.nextInt(3) == 0 ? anySet() : anyRing());
            } else {
                stepOn(kind);
            }
        }

        private void stepOn(int kind) {
            if (kind < 78) {
                plan();
            } else if (kind < 83) {
                send();
            } else if (kind < 88) {
                int n = random.nextInt(4) == 0 ? any(1, 24) : any(1, 3);
                answer("month(" + n + ")", club.month(n), model.month(n));
            } else if (kind < 91) {
                int n = any(0, 12);
                int got = club.ahead(n);
                answer("ahead(" + n + ")", got, model.ahead(n));
                SEEN[6] += got > 0 ? 1 : 0;
            } else if (kind < 96) {
                int m = anyMaker();
                int s = any(0, 2);
                int side = any(0, 1);
                int size = random.nextInt(9) == 0 ? any(1, 60)
                        : 8 + random.nextInt(sizes) - (m >= 0 && m < 4 ? secretShift[m] : 0);
                answer("single(" + m + ", " + s + ", " + side + ", " + size + ")",
                        club.single(m, s, side, size), model.single(m, s, side, size));
            } else {
                int a = anyone();
                int got = club.hand(a);
                answer("hand(" + a + ")", got, model.hand(a));
                SEEN[4] += got >= 0 ? 1 : 0;
            }
        }

        private void price() {
            int m = anyMaker();
            int s = any(0, 2);
            int price = random.nextInt(12) == 0 ? 0 : any(1, wild ? 1000 : 4);
            answer("price(" + m + ", " + s + ", " + price + ")", bit(club.price(m, s, price)), bit(model.price(m, s, price)));
        }

        private void person() {
            if (model.people.size() >= mostPeople) {
                return;
            }
            int feet = random.nextInt(4) == 0 ? random.nextInt(3) : 3;
            int likes = random.nextInt(3) == 0 ? any(1, 7) : 7;
            int grows = random.nextInt(6) == 0 ? any(1, 24) : any(0, 0);
            int lasts = any(1, 4);
            answer("person(" + ((feet & 1) != 0) + ", " + ((feet & 2) != 0) + ", " + likes + ", " + grows + ", " + lasts + ")",
                    club.person((feet & 1) != 0, (feet & 2) != 0, likes, grows, lasts),
                    model.person((feet & 1) != 0, (feet & 2) != 0, likes, grows, lasts));
        }

        /** Most TRIALS tell the truth of secret numbers, so that much becomes SURE; some are wild. */
        private void trial() {
            int m = anyMaker();
            int a = anyone();
            int side = any(0, 1);
            int told = any(-1, 1);
            int size = any(5, 13);
            if (known && random.nextInt(8) != 0 && m >= 0 && m < 4 && a >= 0 && a < model.people.size()
                    && (side == 0 || side == 1)) {
                int foot = secretLength[a][side] + model.grown(a) - secretShift[m];
                size = random.nextInt(3) != 0 ? foot : foot + random.nextInt(5) - 2;
                told = Integer.compare(size, foot);
            }
            int got = club.trial(m, size, a, side, told);
            answer("trial(" + m + ", " + size + ", " + a + ", " + side + ", " + told + ")", got,
                    model.trial(m, size, a, side, told));
            SEEN[3] += got == -2 ? 1 : 0;
        }

        private void ring(int set) {
            int got = club.ring(set);
            answer("ring(" + set + ")", got, model.ring(set));
            for (int i = -1; i < 6; i++) {
                answer("ringOf(" + i + ")", club.ringOf(i), model.ringOf(i));
            }
            SEEN[2] += got > 0 && Integer.bitCount(set) > 2 ? 1 : 0;
            for (int p = 0; got > 0 && p < model.people.size(); p++) {
                SEEN[7] += (set >> p & 1) != 0 && model.people.get(p).feet != 3 ? 1 : 0;
            }
        }

        private void plan() {
            answer("plan()", club.plan(), model.plan());
            SEEN[0] += club.count(5) > 0 ? 1 : 0;
            SEEN[1] += club.count(5) > 1 ? 1 : 0;
            lookAtPlan();
            if (random.nextInt(4) == 0) {
                send();
            }
        }

        private void send() {
            int got = club.send();
            answer("send()", got, model.send());
            SEEN[5] += got > 0 ? 1 : 0;
        }

        private void lookAtPlan() {
            for (int i = -1; i <= model.latest.size(); i++) {
                for (int what = -1; what < 27; what++) {
                    answer("planOf(" + i + ", " + what + ")", club.planOf(i, what), model.planOf(i, what));
                }
            }
            for (int what = 5; what < 8; what++) {
                answer("count(" + what + ")", club.count(what), model.count(what));
            }
        }

        private void lookAtAll() {
            lookAtPlan();
            for (int what = -1; what < 14; what++) {
                answer("count(" + what + ")", club.count(what), model.count(what));
            }
            for (int p = -1; p <= model.people.size(); p++) {
                for (int what = -1; what < 12; what++) {
                    answer("personOf(" + p + ", " + what + ")", club.personOf(p, what), model.personOf(p, what));
                }
            }
            for (int t = -1; t <= model.trials.size(); t++) {
                for (int what = -1; what < 8; what++) {
                    answer("trialOf(" + t + ", " + what + ")", club.trialOf(t, what), model.trialOf(t, what));
                }
            }
            for (int m = -1; m <= model.makers; m++) {
                for (int what = -1; what < 3; what++) {
                    answer("shift(" + m + ", " + what + ")", shiftOf(m, what), model.shift(m, what));
                }
            }
            for (int p = -1; p <= model.people.size(); p++) {
                lookAtFeet(p);
            }
            for (int i = 0; i < 40; i++) {
                int m = anyMaker();
                int s = any(0, 2);
                int side = any(0, 1);
                int size = any(6, 12);
                answer("stock(" + m + ", " + s + ", " + side + ", " + size + ")",
                        club.stock(m, s, side, size), model.stock(m, s, side, size));
            }
        }

        private void lookAtFeet(int p) {
            for (int side = -1; side < 3; side++) {
                for (int what = -1; what < 3; what++) {
                    for (int m = -1; m <= model.makers; m++) {
                        answer("need(" + p + ", " + side + ", " + m + ", " + what + ")",
                                needOf(p, side, m, what), model.need(p, side, m, what));
                    }
                    int b = anyone();
                    int sideB = any(0, 1);
                    answer("differ(" + p + ", " + side + ", " + b + ", " + sideB + ", " + what + ")",
                            differOf(p, side, b, sideB, what), model.differ(p, side, b, sideB, what));
                }
            }
        }

        private static long bit(boolean is) {
            return is ? 1 : 0;
        }

        private long needOf(int p, int side, int m, int what) {
            try {
                return club.need(p, side, m, what);
            } catch (NoSuchElementException e) {
                return THROWS;
            }
        }

        private long shiftOf(int m, int what) {
            try {
                return club.shift(m, what);
            } catch (NoSuchElementException e) {
                return THROWS;
            }
        }

        private long differOf(int a, int sideA, int b, int sideB, int what) {
            try {
                return club.differ(a, sideA, b, sideB, what);
            } catch (NoSuchElementException e) {
                return THROWS;
            }
        }
    }

    private static final class Someone {
        int feet;
        int likes;
        int grows;
        int lasts;
        int came;
        int shod;
        int wait;
        int times;
        boolean gone;

        Someone copy() {
            Someone c = new Someone();
            c.feet = feet;
            c.likes = likes;
            c.grows = grows;
            c.lasts = lasts;
            c.came = came;
            c.shod = shod;
            c.wait = wait;
            c.times = times;
            c.gone = gone;
            return c;
        }
    }

    private static final class Told {
        int maker;
        int size;
        int person;
        int side;
        int told;
        int month;
        boolean stands = true;
    }

    private static final class Round {
        int set;
        int maker;
        int style;
        int cost;
        int pairs;
        int[] row;
        int[] sizes;
    }

    private static final class Model {
        int makers = 0;
        List<Someone> people = new ArrayList<>();
        final List<Told> trials = new ArrayList<>();
        final boolean[][] barred = new boolean[12][12];
        final int[][] prices = new int[4][8];
        final int[][][][] shoes = new int[4][8][2][61];
        List<Round> latest = new ArrayList<>();
        int[] row = new int[0];
        int month = 0;
        int base = 100;
        int per = 10;
        boolean planned = false;
        int pairs = 0;
        int paid = 0;
        int handed = 0;
        /** For each POSSIBLE set of SHIFTS: of each foot the least and the greatest LENGTH when its one came. */
        private List<int[]> worlds = null;

        private boolean isPerson(int p) {
            return p >= 0 && p < people.size();
        }

        private boolean isMaker(int m) {
            return m >= 0 && m < makers;
        }

        private boolean isFoot(int p, int side) {
            return isPerson(p) && (side == 0 && (people.get(p).feet & 1) != 0 || side == 1 && (people.get(p).feet & 2) != 0);
        }

        int grown(int p) {
            return grownAt(p, month);
        }

        private int grownAt(int p, int when) {
            Someone s = people.get(p);
            int grown = 0;
            for (int t = s.came + 1; t <= when; t++) {
                if (s.grows > 0 && (t - s.came) % s.grows == 0) {
                    grown++;
                }
            }
            return grown;
        }

        int maker() {
            if (makers == 4) {
                return -1;
            }
            planned = false;
            worlds = null;
            return makers++;
        }

        boolean price(int m, int style, int price) {
            if (!isMaker(m) || style < 0 || style > 7 || price < 0 || price > 1000) {
                return false;
            }
            prices[m][style] = price;
            planned = false;
            return true;
        }

        int person(boolean left, boolean right, int likes, int grows, int lasts) {
            if (people.size() == 12 || likes < 1 || likes > 255 || grows < 0 || grows > 24 || lasts < 1 || lasts > 24
                    || !left && !right) {
                return -1;
            }
            Someone s = new Someone();
            s.feet = (left ? 1 : 0) | (right ? 2 : 0);
            s.likes = likes;
            s.grows = grows;
            s.lasts = lasts;
            s.came = month;
            people.add(s);
            planned = false;
            worlds = null;
            return people.size() - 1;
        }

        boolean bar(int a, int b, boolean is) {
            if (!isPerson(a) || !isPerson(b) || a == b || barred[a][b] == is) {
                return false;
            }
            barred[a][b] = is;
            barred[b][a] = is;
            planned = false;
            return true;
        }

        boolean likes(int p, int styles) {
            if (!isPerson(p) || styles < 1 || styles > 255) {
                return false;
            }
            people.get(p).likes = styles;
            planned = false;
            return true;
        }

        boolean gone(int p) {
            if (!isPerson(p) || people.get(p).gone) {
                return false;
            }
            people.get(p).gone = true;
            people.get(p).shod = 0;
            people.get(p).wait = 0;
            planned = false;
            return true;
        }

        int trial(int m, int size, int p, int side, int told) {
            if (!isMaker(m) || size < 1 || size > 60 || !isFoot(p, side) || told < -1 || told > 1 || trials.size() == 100) {
                return -1;
            }
            Told t = new Told();
            t.maker = m;
            t.size = size;
            t.person = p;
            t.side = side;
            t.told = told;
            t.month = month;
            trials.add(t);
            worlds = null;
            if (possible().isEmpty()) {
                trials.remove(trials.size() - 1);
                worlds = null;
                return -2;
            }
            planned = false;
            return trials.size() - 1;
        }

        boolean unsay(int t) {
            if (t < 0 || t >= trials.size() || !trials.get(t).stands) {
                return false;
            }
            trials.get(t).stands = false;
            worlds = null;
            planned = false;
            return true;
        }

        int trialOf(int i, int what) {
            if (i < 0 || i >= trials.size() || what < 0 || what > 6) {
                return -9;
            }
            Told t = trials.get(i);
            return new int[] {t.maker, t.size, t.person, t.side, t.told, t.month, t.stands ? 1 : 0}[what];
        }

        /** A world: shift 0..3, then of foot f its least and greatest LENGTH at 4 + 2 f and 5 + 2 f. */
        private List<int[]> possible() {
            if (worlds != null) {
                return worlds;
            }
            worlds = new ArrayList<>();
            int spread1 = makers > 1 ? 3 : 0;
            int spread2 = makers > 2 ? 3 : 0;
            int spread3 = makers > 3 ? 3 : 0;
            for (int s1 = -spread1; s1 <= spread1; s1++) {
                for (int s2 = -spread2; s2 <= spread2; s2++) {
                    for (int s3 = -spread3; s3 <= spread3; s3++) {
                        int[] world = world(new int[] {0, s1, s2, s3});
                        if (world != null) {
                            worlds.add(world);
                        }
                    }
                }
            }
            return worlds;
        }

        private int[] world(int[] shifts) {
            int[] world = new int[4 + 4 * people.size()];
            System.arraycopy(shifts, 0, world, 0, 4);
            for (int f = 0; f < 2 * people.size(); f++) {
                int least = 99;
                int greatest = -99;
                for (int length = 1; length <= 30; length++) {
                    if (agrees(f, length, shifts)) {
                        least = Math.min(least, length);
                        greatest = Math.max(greatest, length);
                    }
                }
                if (least > greatest) {
                    return null;
                }
                world[4 + 2 * f] = least;
                world[5 + 2 * f] = greatest;
            }
            return world;
        }

        private boolean agrees(int f, int length, int[] shifts) {
            for (Told t : trials) {
                if (t.stands && t.person * 2 + t.side == f) {
                    int shoe = t.size + shifts[t.maker];
                    int foot = length + grownAt(t.person, t.month);
                    if (Integer.compare(shoe, foot) != t.told) {
                        return false;
                    }
                }
            }
            return true;
        }

        long need(int p, int side, int m, int what) {
            if (!isFoot(p, side) || !isMaker(m) || what < 0 || what > 1) {
                return THROWS;
            }
            int f = 2 * p + side;
            int least = 9999;
            int greatest = -9999;
            for (int[] w : possible()) {
                least = Math.min(least, w[4 + 2 * f] + grown(p) - w[m]);
                greatest = Math.max(greatest, w[5 + 2 * f] + grown(p) - w[m]);
            }
            return what == 0 ? least : greatest;
        }

        long shift(int m, int what) {
            if (!isMaker(m) || what < 0 || what > 1) {
                return THROWS;
            }
            int least = 9999;
            int greatest = -9999;
            for (int[] w : possible()) {
                least = Math.min(least, w[m]);
                greatest = Math.max(greatest, w[m]);
            }
            return what == 0 ? least : greatest;
        }

        long differ(int a, int sideA, int b, int sideB, int what) {
            if (!isFoot(a, sideA) || !isFoot(b, sideB) || what < 0 || what > 1) {
                return THROWS;
            }
            int f = 2 * a + sideA;
            int g = 2 * b + sideB;
            if (f == g) {
                return 0;
            }
            int least = 9999;
            int greatest = -9999;
            for (int[] w : possible()) {
                least = Math.min(least, w[4 + 2 * f] - w[5 + 2 * g]);
                greatest = Math.max(greatest, w[5 + 2 * f] - w[4 + 2 * g]);
            }
            return (what == 0 ? least : greatest) + grown(a) - grown(b);
        }

        boolean terms(int b, int p) {
            if (b < 1 || b > 1000 || p < 0 || p > 100) {
                return false;
            }
            base = b;
            per = p;
            planned = false;
            return true;
        }

        private boolean waits(int p) {
            return !people.get(p).gone && people.get(p).shod == 0;
        }

        private static final int UNSURE = -5555;

        /** NEED that is SURE, or UNSURE. */
        private int sure(int p, int side, int m) {
            long least = need(p, side, m, 0);
            return least == need(p, side, m, 1) ? (int) least : UNSURE;
        }

        private Round ringOfSet(int set) {
            if (set <= 0 || set >= 1 << people.size() || Integer.bitCount(set) > 5) {
                return null;
            }
            Round best = null;
            for (int m = 0; m < makers; m++) {
                int[][] needs = needsBy(set, m);
                for (int style = 0; style < 8 && needs != null; style++) {
                    if (prices[m][style] > 0 && allLike(set, style)) {
                        int[] order = firstRow(set, needs, new int[0]);
                        if (order != null) {
                            Round r = round(set, m, style, order, needs);
                            if (best == null || r.cost < best.cost) {
                                best = r;
                            }
                        }
                    }
                }
            }
            return best;
        }

        /** By PERSON the NEEDS of both feet, 0 for none; null if they do not do. */
        private int[][] needsBy(int set, int m) {
            int[][] needs = new int[people.size()][2];
            for (int p = 0; p < people.size(); p++) {
                if ((set >> p & 1) == 0) {
                    continue;
                }
                if (!waits(p)) {
                    return null;
                }
                for (int q = 0; q < people.size(); q++) {
                    if ((set >> q & 1) != 0 && barred[p][q]) {
                        return null;
                    }
                }
                for (int side = 0; side < 2; side++) {
                    if (isFoot(p, side)) {
                        int n = sure(p, side, m);
                        if (n < 1 || n > 60) {
                            return null;
                        }
                        needs[p][side] = n;
                    }
                }
            }
            return needs;
        }

        private boolean allLike(int set, int style) {
            for (int p = 0; p < people.size(); p++) {
                if ((set >> p & 1) != 0 && (people.get(p).likes >> style & 1) == 0) {
                    return false;
                }
            }
            return true;
        }

        private int[] firstRow(int set, int[][] needs, int[] begun) {
            if (begun.length == Integer.bitCount(set)) {
                for (int i = 0; i < begun.length; i++) {
                    if (needs[begun[i]][1] != needs[begun[(i + 1) % begun.length]][0]) {
                        return null;
                    }
                }
                return begun;
            }
            for (int p = 0; p < people.size(); p++) {
                boolean in = (set >> p & 1) != 0;
                for (int q : begun) {
                    in &= q != p;
                }
                if (in) {
                    int[] more = java.util.Arrays.copyOf(begun, begun.length + 1);
                    more[begun.length] = p;
                    int[] whole = firstRow(set, needs, more);
                    if (whole != null) {
                        return whole;
                    }
                }
                if (in && begun.length == 0) {
                    return null;
                }
            }
            return null;
        }

        private Round round(int set, int m, int style, int[] order, int[][] needs) {
            Round r = new Round();
            r.set = set;
            r.maker = m;
            r.style = style;
            r.row = order;
            r.sizes = new int[order.length];
            for (int i = 0; i < order.length; i++) {
                r.sizes[i] = needs[order[i]][0];
                r.pairs += isFoot(order[i], 0) ? 1 : 0;
            }
            r.cost = r.pairs * prices[m][style];
            return r;
        }

        int ring(int set) {
            Round r = ringOfSet(set);
            row = r == null ? new int[0] : r.row;
            return r == null ? -1 : r.cost;
        }

        int ringOf(int i) {
            return i < 0 || i >= row.length ? -1 : row[i];
        }

        int worth(int p) {
            return base + per * people.get(p).wait;
        }

        private List<Round> bestPlan;
        private long[] bestRank;

        private List<Round> makePlan() {
            List<Round> rounds = new ArrayList<>();
            for (int set = 1; set < 1 << people.size(); set++) {
                Round r = ringOfSet(set);
                if (r != null) {
                    rounds.add(r);
                }
            }
            bestPlan = null;
            tryPlans(rounds, 0, new ArrayList<>());
            bestPlan.sort((a, b) -> Integer.compare(a.row[0], b.row[0]));
            return bestPlan;
        }

        /** All sets of rounds without a PERSON together, taken by the rounds' order. */
        private void tryPlans(List<Round> rounds, int from, List<Round> taken) {
            consider(taken);
            for (int i = from; i < rounds.size(); i++) {
                int used = 0;
                for (Round r : taken) {
                    used |= r.set;
                }
                if ((used & rounds.get(i).set) == 0) {
                    taken.add(rounds.get(i));
                    tryPlans(rounds, i + 1, taken);
                    taken.remove(taken.size() - 1);
                }
            }
        }

        private void consider(List<Round> taken) {
            long[] rank = new long[2 + people.size()];
            for (Round r : taken) {
                rank[1] += r.cost;
                for (int p : r.row) {
                    rank[0] -= worth(p);
                    rank[2 + p] = r.set;
                }
            }
            if (bestPlan == null || java.util.Arrays.compare(rank, bestRank) < 0) {
                bestPlan = new ArrayList<>(taken);
                bestRank = rank;
            }
        }

        int plan() {
            latest = makePlan();
            planned = true;
            return (int) -bestRank[0];
        }

        int planOf(int i, int what) {
            if (i < 0 || i >= latest.size()) {
                return -1;
            }
            Round r = latest.get(i);
            if (what >= 0 && what < 4) {
                return new int[] {r.set, r.maker, r.style, r.cost}[what];
            }
            if (what >= 10 && what < 10 + r.row.length) {
                return r.row[what - 10];
            }
            if (what >= 20 && what < 20 + r.row.length) {
                return r.sizes[what - 20];
            }
            return -1;
        }

        private void shoe(int p) {
            people.get(p).shod = people.get(p).lasts;
            people.get(p).wait = 0;
            people.get(p).times++;
        }

        private int shoeAll(List<Round> rounds) {
            int n = 0;
            for (Round r : rounds) {
                for (int p : r.row) {
                    shoe(p);
                    n++;
                }
            }
            return n;
        }

        int send() {
            if (!planned) {
                return -1;
            }
            planned = false;
            for (Round r : latest) {
                pairs += r.pairs;
                paid += r.cost;
            }
            return shoeAll(latest);
        }

        private void passMonth() {
            month++;
            for (Someone s : people) {
                if (s.gone) {
                    continue;
                }
                if (s.shod > 0) {
                    s.shod--;
                    s.wait = 0;
                } else {
                    s.wait++;
                }
            }
        }

        int month(int n) {
            if (n < 1 || n > 24 || month + n > 600) {
                return -1;
            }
            for (int i = 0; i < n; i++) {
                passMonth();
            }
            planned = false;
            return month;
        }

        int ahead(int n) {
            if (n < 0 || n > 12) {
                return -1;
            }
            List<Someone> before = people;
            int start = month;
            people = new ArrayList<>();
            for (Someone s : before) {
                people.add(s.copy());
            }
            int shod = 0;
            for (int i = 0; i < n; i++) {
                shod += shoeAll(makePlan());
                passMonth();
            }
            people = before;
            month = start;
            return shod;
        }

        private boolean isKind(int m, int style, int side, int size) {
            return isMaker(m) && style >= 0 && style < 8 && (side == 0 || side == 1) && size >= 1 && size <= 60;
        }

        int single(int m, int style, int side, int size) {
            if (!isKind(m, style, side, size) || shoes[m][style][side][size] == 99) {
                return -1;
            }
            planned = false;
            return ++shoes[m][style][side][size];
        }

        int hand(int p) {
            if (!isPerson(p) || !waits(p)) {
                return -1;
            }
            for (int kind = 0; kind < 10 * makers; kind++) {
                int m = kind / 10;
                int style = kind % 10;
                if (style < 8 && (people.get(p).likes >> style & 1) != 0 && has(p, 0, m, style) && has(p, 1, m, style)) {
                    for (int side = 0; side < 2; side++) {
                        if (isFoot(p, side)) {
                            shoes[m][style][side][sure(p, side, m)]--;
                            handed++;
                        }
                    }
                    shoe(p);
                    planned = false;
                    return kind;
                }
            }
            return -1;
        }

        private boolean has(int p, int side, int m, int style) {
            if (!isFoot(p, side)) {
                return true;
            }
            int n = sure(p, side, m);
            return n >= 1 && n <= 60 && shoes[m][style][side][n] > 0;
        }

        int stock(int m, int style, int side, int size) {
            return isKind(m, style, side, size) ? shoes[m][style][side][size] : -1;
        }

        int personOf(int p, int what) {
            if (!isPerson(p) || what < 0 || what > 10) {
                return -1;
            }
            Someone s = people.get(p);
            int bars = 0;
            for (int q = 0; q < 12; q++) {
                bars |= barred[p][q] ? 1 << q : 0;
            }
            return new int[] {s.feet, s.likes, s.grows, s.lasts, grown(p), s.shod, s.wait, s.gone ? 1 : 0, bars, s.times,
                worth(p)}[what];
        }

        int count(int what) {
            int cost = 0;
            int in = 0;
            for (Round r : latest) {
                cost += r.cost;
                in += r.row.length;
            }
            int waiting = 0;
            for (int p = 0; p < people.size(); p++) {
                waiting += waits(p) ? 1 : 0;
            }
            int stands = 0;
            for (Told t : trials) {
                stands += t.stands ? 1 : 0;
            }
            int held = 0;
            for (int i = 0; i < 4 * 8 * 2 * 60; i++) {
                held += shoes[i / 960][i / 120 % 8][i / 60 % 2][i % 60 + 1];
            }
            int[] all = {month, makers, people.size(), trials.size(), stands, latest.size(), cost, in, waiting, pairs, paid,
                held, handed};
            return what < 0 || what >= all.length ? -1 : all[what];
        }
    }
}
