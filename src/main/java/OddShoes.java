import java.util.NoSuchElementException;

/** A club for odd shoes. The words in capitals in the comments are those of the document. */
public final class OddShoes {
    public static final int NONE = -1;

    private static final int IMPOSSIBLE = -2;
    private static final int NO_SUCH_FACT = -9;
    private static final int MOST_MAKERS = 4;
    private static final int MOST_PEOPLE = 12;
    private static final int MOST_TRIALS = 100;
    private static final int MOST_IN_RING = 5;
    private static final int MOST_MONTHS = 600;
    private static final int MOST_OF_A_KIND = 99;
    private static final int STYLES = 8;
    private static final int SIZES = 60;
    private static final int SIDES = 2;
    private static final int LEFT = 0;
    private static final int RIGHT = 1;

    private final Maker[] makers = new Maker[MOST_MAKERS];
    private final Person[] people = new Person[MOST_PEOPLE];
    private final Measures measures = new Measures();
    private final Offers offers = new Offers();
    private final Rings rings = new Rings();
    private final Plan latest = new Plan();
    private final int[] toldRow = new int[MOST_IN_RING];
    private Planner planner = null;
    private int makerCount = 0;
    private int peopleCount = 0;
    private int toldLength = 0;
    private int now = 0;
    private int base = 100;
    private int per = 10;
    private boolean planHolds = false;
    private int pairsSent = 0;
    private int costSent = 0;
    private int shoesHeld = 0;
    private int shoesHanded = 0;

    public OddShoes() {
    }

    public int maker() {
        if (makerCount >= MOST_MAKERS) {
            return NONE;
        }
        makers[makerCount] = new Maker();
        planHolds = false;
        makerCount++;
        return makerCount - 1;
    }

    public boolean price(int maker, int style, int price) {
        if (makerAt(maker) == null || !isStyle(style) || !isWithin(price, 0, 1000)) {
            return false;
        }
        offers.put(maker, style, price);
        planHolds = false;
        return true;
    }

    public int person(boolean left, boolean right, int likes, int grows, int lasts) {
        if (peopleCount >= MOST_PEOPLE || !(left || right) || !isStyleSet(likes)
                || !isWithin(grows, 0, 24) || !isWithin(lasts, 1, 24)) {
            return NONE;
        }
        int feet = (left ? 1 : 0) + (right ? 2 : 0);
        people[peopleCount] = new Person(feet, likes, grows, lasts, now);
        planHolds = false;
        peopleCount++;
        return peopleCount - 1;
    }

    public boolean bar(int a, int b, boolean is) {
        Person one = personAt(a);
        Person other = personAt(b);
        if (one == null || other == null || a == b || one.isBarredFrom(b) == is) {
            return false;
        }
        one.bars ^= 1 << b;
        other.bars ^= 1 << a;
        planHolds = false;
        return true;
    }

    public boolean likes(int person, int styles) {
        Person one = personAt(person);
        if (one == null || !isStyleSet(styles)) {
            return false;
        }
        one.likes = styles;
        planHolds = false;
        return true;
    }

    public boolean gone(int person) {
        Person one = personAt(person);
        if (one == null || one.gone) {
            return false;
        }
        one.leave();
        planHolds = false;
        return true;
    }

    public int trial(int maker, int size, int person, int side, int told) {
        Person one = personAt(person);
        if (makerAt(maker) == null || one == null || !one.hasFoot(side)
                || !isWithin(size, 1, SIZES) || !isWithin(told, -1, 1) || measures.isFull()) {
            return NONE;
        }
        Trial trial = new Trial(maker, size, person, side, told);
        trial.month = now;
        trial.grown = one.grownBy(now);
        if (!measures.takesIn(trial)) {
            return IMPOSSIBLE;
        }
        planHolds = false;
        return measures.trialCount - 1;
    }

    public boolean unsay(int trial) {
        Trial one = measures.trialAt(trial);
        if (one == null || !one.stands) {
            return false;
        }
        measures.takeBack(one);
        planHolds = false;
        return true;
    }

    public int trialOf(int trial, int what) {
        Trial one = measures.trialAt(trial);
        if (one == null) {
            return NO_SUCH_FACT;
        }
        switch (what) {
            case 0: return one.maker;
            case 1: return one.size;
            case 2: return one.person;
            case 3: return one.side;
            case 4: return one.told;
            case 5: return one.month;
            case 6: return one.stands ? 1 : 0;
            default: return NO_SUCH_FACT;
        }
    }

    public int need(int person, int side, int maker, int what) throws NoSuchElementException {
        Person one = personAt(person);
        if (one == null || !one.hasFoot(side) || makerAt(maker) == null || !isWithin(what, 0, 1)) {
            throw new NoSuchElementException("no such foot, maker or question");
        }
        int foot = footOf(person, side);
        int first = what == 0 ? measures.leastNeed(foot, maker) : measures.greatestNeed(foot, maker);
        return first + one.grownBy(now);
    }

    public int shift(int maker, int what) throws NoSuchElementException {
        if (makerAt(maker) == null || !isWithin(what, 0, 1)) {
            throw new NoSuchElementException("no such maker or question");
        }
        return what == 0 ? measures.leastShift(maker) : measures.greatestShift(maker);
    }

    public int differ(int a, int sideA, int b, int sideB, int what) throws NoSuchElementException {
        Person one = personAt(a);
        Person other = personAt(b);
        if (one == null || other == null || !one.hasFoot(sideA) || !other.hasFoot(sideB)
                || !isWithin(what, 0, 1)) {
            throw new NoSuchElementException("no such feet or question");
        }
        int footA = footOf(a, sideA);
        int footB = footOf(b, sideB);
        int atFirst = what == 0 ? -measures.mostLonger(footB, footA) : measures.mostLonger(footA, footB);
        return atFirst + one.grownBy(now) - other.grownBy(now);
    }

    public boolean terms(int base, int per) {
        if (!isWithin(base, 1, 1000) || !isWithin(per, 0, 100)) {
            return false;
        }
        this.base = base;
        this.per = per;
        planHolds = false;
        return true;
    }

    public int ring(int set) {
        toldLength = 0;
        if (!isWithin(set, 1, (1 << peopleCount) - 1) || Integer.bitCount(set) > MOST_IN_RING) {
            return NONE;
        }
        lookRound();
        int shared = rings.sharedBy(set);
        if (shared == 0 || !rings.puts(set, toldRow, 0)) {
            return NONE;
        }
        toldLength = Integer.bitCount(set);
        return offers.priceOf(offers.bestOf(shared)) * rings.pairsOf(set);
    }

    public int ringOf(int i) {
        return i >= 0 && i < toldLength ? toldRow[i] : NONE;
    }

    public int plan() {
        Planner made = makePlan();
        latest.clear();
        for (int i = 0; i < made.chosenCount; i++) {
            enter(made.chosen[i]);
        }
        planHolds = true;
        return latest.worth;
    }

    public int planOf(int i, int what) {
        if (i < 0 || i >= latest.ringCount) {
            return NONE;
        }
        switch (what) {
            case 0: return latest.sets[i];
            case 1: return latest.offered[i] / STYLES;
            case 2: return latest.offered[i] % STYLES;
            case 3: return latest.costs[i];
            default: break;
        }
        int length = Integer.bitCount(latest.sets[i]);
        if (isWithin(what, 10, 9 + length)) {
            return latest.rows[i * MOST_IN_RING + what - 10];
        }
        if (isWithin(what, 20, 19 + length)) {
            return latest.leftSizes[i * MOST_IN_RING + what - 20];
        }
        return NONE;
    }

    public int send() {
        if (!planHolds) {
            return NONE;
        }
        planHolds = false;
        shoeAll(latest.all);
        pairsSent += latest.pairs;
        costSent += latest.cost;
        return Integer.bitCount(latest.all);
    }

    public int month(int n) {
        if (!isWithin(n, 1, 24) || now + n > MOST_MONTHS) {
            return NONE;
        }
        for (int i = 0; i < n; i++) {
            passMonth();
        }
        planHolds = false;
        return now;
    }

    public int ahead(int n) {
        if (!isWithin(n, 0, 12)) {
            return NONE;
        }
        int start = now;
        for (int i = 0; i < peopleCount; i++) {
            people[i].keep();
        }
        int shod = 0;
        for (int i = 0; i < n; i++) {
            int all = makePlan().all;
            shoeAll(all);
            shod += Integer.bitCount(all);
            passMonth();
        }
        for (int i = 0; i < peopleCount; i++) {
            people[i].restore();
        }
        now = start;
        return shod;
    }

    public int single(int maker, int style, int side, int size) {
        Maker one = makerAt(maker);
        if (one == null || !isKind(style, side, size)) {
            return NONE;
        }
        int kind = Maker.kindOf(style, side, size);
        if (one.shoes[kind] >= MOST_OF_A_KIND) {
            return NONE;
        }
        one.shoes[kind]++;
        shoesHeld++;
        planHolds = false;
        return one.shoes[kind];
    }

    public int hand(int person) {
        Person one = personAt(person);
        if (one == null || !one.waits()) {
            return NONE;
        }
        for (int maker = 0; maker < makerCount; maker++) {
            if (suits(person, maker)) {
                for (int style = 0; style < STYLES; style++) {
                    if (one.likesStyle(style) && takesOfStock(person, maker, style)) {
                        one.shoe();
                        planHolds = false;
                        return 10 * maker + style;
                    }
                }
            }
        }
        return NONE;
    }

    public int stock(int maker, int style, int side, int size) {
        Maker one = makerAt(maker);
        return one != null && isKind(style, side, size) ? one.shoes[Maker.kindOf(style, side, size)] : NONE;
    }

    public int personOf(int person, int what) {
        Person one = personAt(person);
        if (one == null) {
            return NONE;
        }
        switch (what) {
            case 0: return one.feet;
            case 1: return one.likes;
            case 2: return one.grows;
            case 3: return one.lasts;
            case 4: return one.grownBy(now);
            case 5: return one.shod;
            case 6: return one.wait;
            case 7: return one.gone ? 1 : 0;
            case 8: return one.bars;
            case 9: return one.timesShod;
            case 10: return worthOf(one);
            default: return NONE;
        }
    }

    public int count(int what) {
        switch (what) {
            case 0: return now;
            case 1: return makerCount;
            case 2: return peopleCount;
            case 3: return measures.trialCount;
            case 4: return measures.standing();
            case 5: return latest.ringCount;
            case 6: return latest.cost;
            case 7: return Integer.bitCount(latest.all);
            case 8: return waiting();
            case 9: return pairsSent;
            case 10: return costSent;
            case 11: return shoesHeld;
            case 12: return shoesHanded;
            default: return NONE;
        }
    }

    private static boolean isWithin(int number, int least, int greatest) {
        return number >= least && number <= greatest;
    }

    private static boolean isStyle(int style) {
        return isWithin(style, 0, STYLES - 1);
    }

    private static boolean isStyleSet(int styles) {
        return isWithin(styles, 1, (1 << STYLES) - 1);
    }

    private static boolean isKind(int style, int side, int size) {
        return isStyle(style) && isWithin(side, LEFT, RIGHT) && isWithin(size, 1, SIZES);
    }

    private static int footOf(int person, int side) {
        return person * SIDES + side;
    }

    /** The number of the lowest bit of bits that are not 0. */
    private static int lowestOf(int bits) {
        return Integer.bitCount((bits & -bits) - 1);
    }

    private Maker makerAt(int maker) {
        return maker >= 0 && maker < makerCount ? makers[maker] : null;
    }

    private Person personAt(int person) {
        return person >= 0 && person < peopleCount ? people[person] : null;
    }

    private int worthOf(Person one) {
        return base + per * one.wait;
    }

    private int waiting() {
        int found = 0;
        for (int i = 0; i < peopleCount; i++) {
            if (people[i].waits()) {
                found++;
            }
        }
        return found;
    }

    private void passMonth() {
        now++;
        for (int i = 0; i < peopleCount; i++) {
            people[i].passMonth();
        }
    }

    private void shoeAll(int set) {
        for (int i = 0; i < peopleCount; i++) {
            if ((set >> i & 1) != 0) {
                people[i].shoe();
            }
        }
    }

    /** Whether all feet of a PERSON have NEEDS by a MAKER that are SURE and are SIZES. */
    private boolean suits(int person, int maker) {
        Person one = people[person];
        for (int side = LEFT; side <= RIGHT; side++) {
            if (one.hasFoot(side) && !(measures.isSure(footOf(person, side), maker)
                    && isWithin(sureNeed(person, side, maker), 1, SIZES))) {
                return false;
            }
        }
        return true;
    }

    /** Takes a shoe for each foot of a PERSON whom the MAKER suits; false: not all are there, none is taken. */
    private boolean takesOfStock(int person, int maker, int style) {
        Person one = people[person];
        int[] shoes = makers[maker].shoes;
        for (int side = LEFT; side <= RIGHT; side++) {
            if (one.hasFoot(side) && shoes[kindFor(person, side, maker, style)] == 0) {
                return false;
            }
        }
        for (int side = LEFT; side <= RIGHT; side++) {
            if (one.hasFoot(side)) {
                shoes[kindFor(person, side, maker, style)]--;
                shoesHeld--;
                shoesHanded++;
            }
        }
        return true;
    }

    private int kindFor(int person, int side, int maker, int style) {
        return Maker.kindOf(style, side, sureNeed(person, side, maker));
    }

    private int sureNeed(int person, int side, int maker) {
        return measures.leastNeed(footOf(person, side), maker) + people[person].grownBy(now);
    }

    /** Tells the rings who may be in one as all is now, and who may stand ahead of whom. */
    private void lookRound() {
        rings.clear();
        for (int i = 0; i < peopleCount; i++) {
            Person one = people[i];
            int ranks = one.waits() ? offersFor(i) : 0;
            if (ranks != 0) {
                rings.enter(i, ranks, one.bars, worthOf(one));
                rings.tellFeet(i, markOf(i, LEFT), markOf(i, RIGHT));
            }
        }
        rings.link();
    }

    private int offersFor(int person) {
        int found = 0;
        for (int maker = 0; maker < makerCount; maker++) {
            if (suits(person, maker)) {
                found |= offers.ranksOf(maker, people[person].likes);
            }
        }
        return found;
    }

    /**
     * A number for a foot, 0 for none: feet that are SURE by one MAKER have the same number just if they have the
     * same NEED. The first MAKER by whom one of them is SURE is that of the other one too, for what tells one
     * SHIFT from another does so for both.
     */
    private int markOf(int person, int side) {
        int foot = footOf(person, side);
        if (!people[person].hasFoot(side)) {
            return 0;
        }
        for (int maker = 0; maker < makerCount; maker++) {
            if (measures.isSure(foot, maker)) {
                return (sureNeed(person, side, maker) + 10) * MOST_MAKERS + maker;
            }
        }
        return 0;
    }

    /** A planner that has chosen the RINGS of a PLAN, as all is now. Its rows are long: it is made when first used. */
    private Planner makePlan() {
        Planner mine = planner == null ? new Planner(rings, offers) : planner;
        planner = mine;
        lookRound();
        mine.choose();
        return mine;
    }

    private void enter(int set) {
        int at = latest.ringCount * MOST_IN_RING;
        int offer = offers.bestOf(rings.sharedBy(set));
        if (!rings.puts(set, latest.rows, at)) {
            return;
        }
        for (int k = at; k < at + Integer.bitCount(set); k++) {
            int person = latest.rows[k];
            latest.leftSizes[k] = people[person].hasFoot(LEFT) ? sureNeed(person, LEFT, offer / STYLES) : 0;
        }
        int pairs = rings.pairsOf(set);
        latest.add(set, offer, pairs, pairs * offers.priceOf(offer));
        latest.worth += rings.worthOfAll(set);
    }

    /** A MAKER's single shoes in STOCK. */
    private static final class Maker {
        final int[] shoes = new int[STYLES * SIDES * SIZES];

        static int kindOf(int style, int side, int size) {
            return (style * SIDES + side) * SIZES + size - 1;
        }
    }

    private static final class Person {
        final int feet;
        final int grows;
        final int lasts;
        final int came;
        int likes;
        int bars = 0;
        int shod = 0;
        int wait = 0;
        int timesShod = 0;
        boolean gone = false;
        private int keptShod = 0;
        private int keptWait = 0;
        private int keptTimes = 0;

        Person(int feet, int likes, int grows, int lasts, int came) {
            this.feet = feet;
            this.likes = likes;
            this.grows = grows;
            this.lasts = lasts;
            this.came = came;
        }

        boolean hasFoot(int side) {
            return isWithin(side, LEFT, RIGHT) && (feet >> side & 1) != 0;
        }

        boolean likesStyle(int style) {
            return (likes >> style & 1) != 0;
        }

        boolean isBarredFrom(int other) {
            return (bars >> other & 1) != 0;
        }

        boolean waits() {
            return !gone && shod == 0;
        }

        int grownBy(int month) {
            return grows == 0 ? 0 : (month - came) / grows;
        }

        void shoe() {
            shod = lasts;
            wait = 0;
            timesShod++;
        }

        void leave() {
            gone = true;
            shod = 0;
            wait = 0;
        }

        void passMonth() {
            if (shod > 0) {
                shod--;
            } else if (!gone) {
                wait++;
            }
        }

        void keep() {
            keptShod = shod;
            keptWait = wait;
            keptTimes = timesShod;
        }

        void restore() {
            shod = keptShod;
            wait = keptWait;
            timesShod = keptTimes;
        }
    }

    private static final class Trial {
        final int maker;
        final int size;
        final int person;
        final int side;
        final int told;
        int month = 0;
        int grown = 0;
        boolean stands = true;

        Trial(int maker, int size, int person, int side, int told) {
            this.maker = maker;
            this.size = size;
            this.person = person;
            this.side = side;
            this.told = told;
        }
    }

    /**
     * What TRIALS say of feet and makers. All of it bounds a foot's first NEED, which is its LENGTH when its
     * PERSON came less a SHIFT; for MAKER 0, whose SHIFT is 0, that is the LENGTH itself. So what is POSSIBLE
     * is told by the shortest ways in a small graph, and whole numbers always reach its ends. Feet and makers
     * that are not there yet have only the bounds of all, which take nothing from others.
     */
    private static final class Measures {
        private static final int FEET = MOST_PEOPLE * SIDES;
        private static final int LONGEST = 30;
        private static final int MOST_SHIFT = 3;

        int trialCount = 0;
        private final Trial[] trials = new Trial[MOST_TRIALS];
        /** Of a foot and a MAKER: the bounds that TRIALS set by themselves. */
        private final int[] low = new int[FEET * MOST_MAKERS];
        private final int[] high = new int[FEET * MOST_MAKERS];
        /** Of a foot and a MAKER: the bounds that all together set. */
        private final int[] least = new int[FEET * MOST_MAKERS];
        private final int[] greatest = new int[FEET * MOST_MAKERS];
        /** Of two makers: by how much the first one's SHIFT can be greater at most. */
        private final int[] gap = new int[MOST_MAKERS * MOST_MAKERS];

        Measures() {
            settle();
        }

        boolean isFull() {
            return trialCount >= MOST_TRIALS;
        }

        Trial trialAt(int trial) {
            return trial >= 0 && trial < trialCount ? trials[trial] : null;
        }

        int standing() {
            int found = 0;
            for (int i = 0; i < trialCount; i++) {
                if (trials[i].stands) {
                    found++;
                }
            }
            return found;
        }

        /** False: it is not POSSIBLE with what stands, and all is as before. */
        boolean takesIn(Trial trial) {
            if (isFull()) {
                return false;
            }
            trials[trialCount] = trial;
            trialCount++;
            if (settle()) {
                return true;
            }
            trialCount--;
            trials[trialCount] = null;
            settle();
            return false;
        }

        void takeBack(Trial trial) {
            trial.stands = false;
            settle();
        }

        int leastNeed(int foot, int maker) {
            return least[foot * MOST_MAKERS + maker];
        }

        int greatestNeed(int foot, int maker) {
            return greatest[foot * MOST_MAKERS + maker];
        }

        boolean isSure(int foot, int maker) {
            return leastNeed(foot, maker) == greatestNeed(foot, maker);
        }

        int leastShift(int maker) {
            return -gap[maker];
        }

        int greatestShift(int maker) {
            return gap[maker * MOST_MAKERS];
        }

        /** By how much foot a could be longer than foot b at most, when their people came. */
        int mostLonger(int a, int b) {
            if (a == b) {
                return 0;
            }
            int most = LONGEST;
            for (int maker = 0; maker < MOST_MAKERS; maker++) {
                most = Math.min(most, greatestNeed(a, maker) - leastNeed(b, maker));
            }
            return most;
        }

        /** Works all bounds out anew; false: what stands is not POSSIBLE together. */
        private boolean settle() {
            setFirstBounds();
            for (int i = 0; i < trialCount; i++) {
                if (trials[i].stands) {
                    heed(trials[i]);
                }
            }
            closeGaps();
            for (int maker = 0; maker < MOST_MAKERS; maker++) {
                if (gap[maker * MOST_MAKERS + maker] < 0) {
                    return false;
                }
            }
            setNeeds();
            return true;
        }

        private void setFirstBounds() {
            for (int foot = 0; foot < FEET; foot++) {
                for (int maker = 0; maker < MOST_MAKERS; maker++) {
                    int at = foot * MOST_MAKERS + maker;
                    int leeway = maker == 0 ? 0 : MOST_SHIFT;
                    low[at] = 1 - leeway;
                    high[at] = LONGEST + leeway;
                }
            }
        }

        private void heed(Trial trial) {
            int at = footOf(trial.person, trial.side) * MOST_MAKERS + trial.maker;
            int right = trial.size - trial.grown;
            if (trial.told <= 0) {
                low[at] = Math.max(low[at], right - trial.told);
            }
            if (trial.told >= 0) {
                high[at] = Math.min(high[at], right - trial.told);
            }
        }

        private void closeGaps() {
            for (int a = 0; a < MOST_MAKERS; a++) {
                for (int b = 0; b < MOST_MAKERS; b++) {
                    gap[a * MOST_MAKERS + b] = directGap(a, b);
                }
            }
            for (int by = 0; by < MOST_MAKERS; by++) {
                for (int a = 0; a < MOST_MAKERS; a++) {
                    for (int b = 0; b < MOST_MAKERS; b++) {
                        int at = a * MOST_MAKERS + b;
                        gap[at] = Math.min(gap[at], gap[a * MOST_MAKERS + by] + gap[by * MOST_MAKERS + b]);
                    }
                }
            }
        }

        /** A foot's NEED by b less its NEED by a is the SHIFT of a less that of b. */
        private int directGap(int a, int b) {
            int most = a == b ? 0 : (a == 0 || b == 0 ? MOST_SHIFT : 2 * MOST_SHIFT);
            for (int foot = 0; foot < FEET; foot++) {
                most = Math.min(most, high[foot * MOST_MAKERS + b] - low[foot * MOST_MAKERS + a]);
            }
            return most;
        }

        private void setNeeds() {
            for (int foot = 0; foot < FEET; foot++) {
                for (int maker = 0; maker < MOST_MAKERS; maker++) {
                    int at = foot * MOST_MAKERS + maker;
                    least[at] = low[at];
                    greatest[at] = high[at];
                    for (int by = 0; by < MOST_MAKERS; by++) {
                        int from = foot * MOST_MAKERS + by;
                        least[at] = Math.max(least[at], low[from] - gap[maker * MOST_MAKERS + by]);
                        greatest[at] = Math.min(greatest[at], high[from] + gap[by * MOST_MAKERS + maker]);
                    }
                }
            }
        }
    }

    /** The pairs that can be bought, an offer for each MAKER and STYLE, and their ranks: the cheapest first. */
    private static final class Offers {
        private static final int ALL = MOST_MAKERS * STYLES;

        private final int[] prices = new int[ALL];
        private final int[] byRank = new int[ALL];
        private final int[] rankOf = new int[ALL];

        void put(int maker, int style, int price) {
            prices[maker * STYLES + style] = price;
            int ranked = 0;
            for (int offer = 0; offer < ALL; offer++) {
                if (prices[offer] > 0) {
                    insert(offer, ranked);
                    ranked++;
                }
            }
            for (int rank = 0; rank < ranked; rank++) {
                rankOf[byRank[rank]] = rank;
            }
        }

        /** Offers come by MAKER and STYLE, so one behind all of its PRICE keeps to that order too. */
        private void insert(int offer, int ranked) {
            int at = ranked;
            while (at > 0 && prices[byRank[at - 1]] > prices[offer]) {
                byRank[at] = byRank[at - 1];
                at--;
            }
            byRank[at] = offer;
        }

        int priceOf(int offer) {
            return prices[offer];
        }

        /** The ranks, as bits, of a MAKER's offers in some STYLES. */
        int ranksOf(int maker, int styles) {
            int found = 0;
            for (int style = 0; style < STYLES; style++) {
                int offer = maker * STYLES + style;
                if ((styles >> style & 1) != 0 && prices[offer] > 0) {
                    found |= 1 << rankOf[offer];
                }
            }
            return found;
        }

        /** The first offer of ranks, as bits, that are not 0. */
        int bestOf(int ranks) {
            return ranks == 0 ? 0 : byRank[lowestOf(ranks)];
        }
    }

    /** Who may be in RINGS, as all is at some time. */
    private static final class Rings {
        /** Of a PERSON: all, as bits, who may stand ahead of that one. */
        final int[] before = new int[MOST_PEOPLE];
        private final int[] ranks = new int[MOST_PEOPLE];
        private final int[] bars = new int[MOST_PEOPLE];
        private final int[] worths = new int[MOST_PEOPLE];
        private final int[] leftMarks = new int[MOST_PEOPLE];
        private final int[] rightMarks = new int[MOST_PEOPLE];
        private int able = 0;
        private int leftFooted = 0;

        void clear() {
            able = 0;
            leftFooted = 0;
            for (int i = 0; i < MOST_PEOPLE; i++) {
                before[i] = 0;
                ranks[i] = 0;
            }
        }

        void enter(int person, int ofRanks, int withBars, int worth) {
            ranks[person] = ofRanks;
            bars[person] = withBars;
            worths[person] = worth;
            able |= 1 << person;
        }

        void tellFeet(int person, int left, int right) {
            leftMarks[person] = left;
            rightMarks[person] = right;
            if (left != 0) {
                leftFooted |= 1 << person;
            }
        }

        void link() {
            for (int next = 0; next < MOST_PEOPLE; next++) {
                for (int person = 0; person < MOST_PEOPLE; person++) {
                    if (areAble(1 << next | 1 << person) && rightMarks[person] == leftMarks[next]) {
                        before[next] |= 1 << person;
                    }
                }
            }
        }

        boolean goesAhead(int person, int next) {
            return (before[next] >> person & 1) != 0;
        }

        boolean areAble(int set) {
            return (set & ~able) == 0;
        }

        int pairsOf(int set) {
            return Integer.bitCount(set & leftFooted);
        }

        int worthOfAll(int set) {
            int sum = 0;
            int rest = set;
            for (int left = Integer.bitCount(set); left > 0; left--) {
                sum += worths[lowestOf(rest)];
                rest &= rest - 1;
            }
            return sum;
        }

        /** The ranks, as bits, of the offers that suit all of a set; 0 if two have a BAR, or one is not able. */
        int sharedBy(int set) {
            int shared = -1;
            int rest = set;
            for (int left = Integer.bitCount(set); left > 0; left--) {
                int person = lowestOf(rest);
                rest &= rest - 1;
                if ((bars[person] & set) != 0) {
                    return 0;
                }
                shared &= ranks[person];
            }
            return shared;
        }

        /** Puts a set into a row from an index on, the first by numbers; false: there is none. */
        boolean puts(int set, int[] row, int from) {
            int length = Integer.bitCount(set);
            if (length < 1 || length > MOST_IN_RING || from < 0 || from + length > row.length) {
                return false;
            }
            int first = lowestOf(set);
            row[from] = first;
            return putsRest(first, set & (set - 1), row, from + 1);
        }

        /** Puts the rest behind the one at index at - 1; each level has one less, so there are five at most. */
        private boolean putsRest(int first, int rest, int[] row, int at) {
            int last = row[at - 1];
            if (rest == 0) {
                return goesAhead(last, first);
            }
            int untried = rest;
            for (int left = Integer.bitCount(rest); left > 0; left--) {
                int person = lowestOf(untried);
                untried &= untried - 1;
                if (goesAhead(last, person)) {
                    row[at] = person;
                    if (putsRest(first, rest & ~(1 << person), row, at + 1)) {
                        return true;
                    }
                }
            }
            return false;
        }
    }

    /**
     * Chooses the RINGS of a PLAN. A set whose RING could be two RINGS is never in one: they bring the same WORTH,
     * do not COST more, and the one with the least PERSON is the lesser set. So only loops are looked at: RINGS
     * that come back to a NEED that they had at no place but their end.
     */
    private static final class Planner {
        private static final int SETS = 1 << MOST_PEOPLE;
        /** All sets of 1 .. 5 of twelve people. */
        private static final int MOST_LOOPS = 1585;
        /** More than all RINGS of a PLAN can COST, so that WORTH comes first and COST behind it in one number. */
        private static final long COST_ROOM = 16384L;

        final int[] chosen = new int[MOST_PEOPLE];
        int chosenCount = 0;
        int all = 0;
        private final Rings rings;
        private final Offers offers;
        /** The loops' sets by their least people; those of a PERSON begin at firstLoop of it. */
        private final int[] loops = new int[MOST_LOOPS];
        private final int[] firstLoop = new int[MOST_PEOPLE + 1];
        private int loopCount = 0;
        /** WORTH and COST of each loop. */
        private final long[] gains = new long[MOST_LOOPS];
        /** By sets of people: WORTH and COST of a PLAN for them alone, and in which round that was worked out. */
        private final long[] best = new long[SETS];
        private final int[] roundOf = new int[SETS];
        private int round = 0;

        Planner(Rings rings, Offers offers) {
            this.rings = rings;
            this.offers = offers;
        }

        /** Chooses the sets of a PLAN, by their least people. */
        void choose() {
            round++;
            loopCount = 0;
            for (int person = 0; person < MOST_PEOPLE; person++) {
                firstLoop[person] = loopCount;
                if (rings.areAble(1 << person)) {
                    follow(person, person, 1 << person, 0);
                }
            }
            firstLoop[MOST_PEOPLE] = loopCount;
            pick();
        }

        /**
         * Finds the loops that begin with the row of a set, from its first to its last one. Closing: who would go
         * ahead of one of the row but its first, which would be a loop within. A row has five at most.
         */
        private void follow(int first, int last, int set, int closing) {
            int shared = rings.sharedBy(set);
            if (shared == 0) {
                return;
            }
            if (rings.goesAhead(last, first)) {
                add(set, shared);
                return;
            }
            for (int next = first + 1; next < MOST_PEOPLE && Integer.bitCount(set) < MOST_IN_RING; next++) {
                int more = closing | rings.before[next];
                if (rings.goesAhead(last, next) && ((set | more) >> next & 1) == 0) {
                    follow(first, next, set | 1 << next, more);
                }
            }
        }

        private void add(int set, int shared) {
            if (loopCount >= MOST_LOOPS) {
                return;
            }
            int cost = offers.priceOf(offers.bestOf(shared)) * rings.pairsOf(set);
            loops[loopCount] = set;
            gains[loopCount] = rings.worthOfAll(set) * COST_ROOM - cost;
            loopCount++;
        }

        /** The least of the open ones is in no RING, or in one with others of them; each level has less of them. */
        private long bestFor(int open) {
            if (open == 0) {
                return 0;
            }
            if (roundOf[open] == round) {
                return best[open];
            }
            int least = lowestOf(open);
            long most = bestFor(open & (open - 1));
            for (int i = firstLoop[least]; i < firstLoop[least + 1]; i++) {
                if ((loops[i] & ~open) == 0) {
                    most = Math.max(most, gains[i] + bestFor(open & ~loops[i]));
                }
            }
            roundOf[open] = round;
            best[open] = most;
            return most;
        }

        private void pick() {
            int open = 0;
            for (int i = 0; i < loopCount; i++) {
                open |= loops[i];
            }
            all = 0;
            chosenCount = 0;
            for (int person = 0; person < MOST_PEOPLE; person++) {
                if ((open >> person & 1) != 0) {
                    int set = pickFor(person, open);
                    if (set != 0) {
                        chosen[chosenCount] = set;
                        chosenCount++;
                        all |= set;
                    }
                    open &= ~(set | 1 << person);
                }
            }
        }

        /** The set that the least of the open ones is in, the least of several; 0: none, which is ahead of all. */
        private int pickFor(int least, int open) {
            long most = bestFor(open);
            if (bestFor(open & ~(1 << least)) == most) {
                return 0;
            }
            int found = 0;
            for (int i = firstLoop[least]; i < firstLoop[least + 1]; i++) {
                int set = loops[i];
                if ((set & ~open) == 0 && gains[i] + bestFor(open & ~set) == most && (found == 0 || set < found)) {
                    found = set;
                }
            }
            return found;
        }
    }

    /** What the latest plan() told. */
    private static final class Plan {
        final int[] sets = new int[MOST_PEOPLE];
        final int[] offered = new int[MOST_PEOPLE];
        final int[] costs = new int[MOST_PEOPLE];
        /** Five places for each RING. */
        final int[] rows = new int[MOST_PEOPLE * MOST_IN_RING];
        final int[] leftSizes = new int[MOST_PEOPLE * MOST_IN_RING];
        int ringCount = 0;
        int all = 0;
        int pairs = 0;
        int cost = 0;
        int worth = 0;

        void clear() {
            ringCount = 0;
            all = 0;
            pairs = 0;
            cost = 0;
            worth = 0;
        }

        void add(int set, int offer, int pairsOfIt, int costOfIt) {
            if (ringCount >= MOST_PEOPLE) {
                return;
            }
            sets[ringCount] = set;
            offered[ringCount] = offer;
            costs[ringCount] = costOfIt;
            ringCount++;
            all |= set;
            pairs += pairsOfIt;
            cost += costOfIt;
        }
    }
}
