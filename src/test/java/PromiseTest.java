import java.util.NoSuchElementException;

/** Each promise of the document by itself: ordinary calls, the edges that it names, wrong arguments. */
public final class PromiseTest {
    private static final int[] OUTSIDE = {Integer.MIN_VALUE, -100, -1, 100000, Integer.MAX_VALUE};
    private static final long THROWS = Long.MIN_VALUE;
    private static int wrong = 0;
    private static int asked = 0;
    private static String promise = "";

    public static void main(String[] args) {
        newObject();
        maker();
        price();
        person();
        bar();
        likes();
        gone();
        trial();
        trialsOfThoseWhoGrow();
        unsay();
        trialOf();
        need();
        shift();
        differ();
        terms();
        ring();
        ringsOfOneFooted();
        ringsOfSureNeeds();
        ringOf();
        plan();
        planTies();
        planOf();
        send();
        sendAfterCalls();
        month();
        ahead();
        aheadOfThoseWhoGrow();
        single();
        hand();
        handByMakers();
        stock();
        personOf();
        count();
        System.out.println(wrong == 0 ? asked + " answers are as promised" : wrong + " answers are not as promised");
        if (wrong != 0) {
            System.exit(1);
        }
    }

    private static void due(String what, long got, long want) {
        asked++;
        if (got != want) {
            wrong++;
            System.out.println("promise " + promise + ": " + what + ": answered " + got + ", due is " + want);
        }
    }

    private static void due(String what, boolean got, boolean want) {
        due(what, got ? 1 : 0, want ? 1 : 0);
    }

    /** A club with so many makers. */
    private static OddShoes club(int makers) {
        OddShoes club = new OddShoes();
        for (int i = 0; i < makers; i++) {
            club.maker();
        }
        return club;
    }

    /** Someone of two feet whose LENGTHS now become SURE by MAKER 0, who LIKES STYLE 0, and whose shoes last 3 MONTHS. */
    private static int both(OddShoes club, int left, int right) {
        int p = club.person(true, true, 1, 0, 3);
        fit(club, p, left, right);
        return p;
    }

    private static void fit(OddShoes club, int p, int left, int right) {
        if (left > 0) {
            club.trial(0, left, p, 0, 0);
        }
        if (right > 0) {
            club.trial(0, right, p, 1, 0);
        }
    }

    /** Two makers, STYLE 0 by MAKER 0 for 10; 0 and 1 are a RING, 2 is one alone. */
    private static OddShoes three() {
        OddShoes club = club(2);
        club.price(0, 0, 10);
        both(club, 5, 6);
        both(club, 6, 5);
        both(club, 7, 7);
        return club;
    }

    private static long need(OddShoes club, int person, int side, int maker, int what) {
        try {
            return club.need(person, side, maker, what);
        } catch (NoSuchElementException e) {
            return THROWS;
        }
    }

    private static long shift(OddShoes club, int maker, int what) {
        try {
            return club.shift(maker, what);
        } catch (NoSuchElementException e) {
            return THROWS;
        }
    }

    private static long differ(OddShoes club, int a, int sideA, int b, int sideB, int what) {
        try {
            return club.differ(a, sideA, b, sideB, what);
        } catch (NoSuchElementException e) {
            return THROWS;
        }
    }

    private static void newObject() {
        promise = "1";
        OddShoes club = new OddShoes();
        for (int what = 0; what <= 12; what++) {
            due("count(" + what + ")", club.count(what), 0);
        }
        due("NONE", OddShoes.NONE, -1);
        due("send", club.send(), -1);
        due("ringOf", club.ringOf(0), -1);
        due("planOf", club.planOf(0, 0), -1);
        due("trialOf", club.trialOf(0, 0), -9);
        due("personOf", club.personOf(0, 0), -1);
        due("stock", club.stock(0, 0, 0, 1), -1);
        due("shift", shift(club, 0, 0), THROWS);
        due("ahead", club.ahead(12), 0);
        due("plan", club.plan(), 0);
        due("ring", club.ring(1), -1);
        due("two objects are apart", new OddShoes().count(1) + club.maker() + new OddShoes().count(1), 0);
    }

    private static void maker() {
        promise = "2";
        OddShoes club = new OddShoes();
        for (int i = 0; i < 4; i++) {
            due("maker", club.maker(), i);
            due("makers", club.count(1), i + 1);
        }
        due("a fifth", club.maker(), -1);
        due("makers", club.count(1), 4);
        club.person(true, true, 1, 0, 1);
        due("maker 4 has no price", club.price(4, 0, 1), false);
        due("no trials", club.trial(4, 9, 0, 0, 0), -1);
        due("no needs", need(club, 0, 0, 4, 0), THROWS);
        due("no shift", shift(club, 4, 0), THROWS);
        due("no shoes", club.single(4, 0, 0, 1), -1);
        due("no stock", club.stock(4, 0, 0, 1), -1);
    }

    private static void price() {
        promise = "3";
        OddShoes club = club(2);
        due("no such maker", club.price(2, 0, 5), false);
        for (int odd : OUTSIDE) {
            due("maker", club.price(odd, 0, 5), false);
            due("style", club.price(0, odd, 5), false);
            due("price", club.price(0, 0, odd), false);
        }
        due("style 8", club.price(0, 8, 5), false);
        due("1001", club.price(0, 0, 1001), false);
        due("0 where none is", club.price(0, 0, 0), true);
        club.person(true, true, 128, 0, 1);
        fit(club, 0, 9, 9);
        due("without one there are none", club.ring(1), -1);
        due("1000", club.price(0, 7, 1000), true);
        due("of all sizes", club.ring(1), 1000);
        due("another", club.price(0, 7, 1), true);
        due("ring", club.ring(1), 1);
        due("refused", club.price(0, 7, 1001), false);
        due("as before", club.ring(1), 1);
        due("none again", club.price(0, 7, 0), true);
        due("ring", club.ring(1), -1);
    }

    private static void person() {
        promise = "4";
        OddShoes club = club(1);
        due("no foot", club.person(false, false, 1, 0, 1), -1);
        int[] likes = {0, 256, -1, Integer.MIN_VALUE, Integer.MAX_VALUE};
        for (int odd : likes) {
            due("likes " + odd, club.person(true, true, odd, 0, 1), -1);
        }
        due("grows 25", club.person(true, true, 1, 25, 1), -1);
        due("grows -1", club.person(true, true, 1, -1, 1), -1);
        due("lasts 0", club.person(true, true, 1, 0, 0), -1);
        due("lasts 25", club.person(true, true, 1, 0, 25), -1);
        due("lasts -1", club.person(true, true, 1, 0, -1), -1);
        due("none came", club.count(2), 0);
        due("left", club.person(true, false, 255, 24, 24), 0);
        due("right", club.person(false, true, 1, 0, 1), 1);
        due("feet of 0", club.personOf(0, 0), 1);
        due("feet of 1", club.personOf(1, 0), 2);
        club.month(2);
        for (int i = 2; i < 12; i++) {
            due("person", club.person(true, true, 1, 1, 1), i);
        }
        due("a 13th", club.person(true, true, 1, 0, 1), -1);
        club.gone(3);
        due("a 13th, after one went", club.person(true, true, 1, 0, 1), -1);
        due("people", club.count(2), 12);
        due("person 12 has no bars", club.bar(12, 0, true) || club.bar(0, 12, true), false);
        due("no likes", club.likes(12, 1), false);
        due("does not go", club.gone(12), false);
        due("no trials", club.trial(0, 9, 12, 0, 0), -1);
        due("no needs", need(club, 12, 0, 0, 0), THROWS);
        due("no lengths", differ(club, 0, 0, 12, 0, 0), THROWS);
        due("no ring", club.ring(1 << 12), -1);
        due("no shoes", club.hand(12), -1);
        due("nothing", club.personOf(12, 0), -1);
        due("wait of one who came later", club.personOf(5, 6), 0);
        due("wait of one who came first", club.personOf(0, 6), 2);
        due("growth begins with the coming", club.personOf(5, 4), 0);
    }

    private static void bar() {
        promise = "5";
        OddShoes club = three();
        due("the same", club.bar(1, 1, true), false);
        due("no bar to lift", club.bar(0, 1, false), false);
        due("none such", club.bar(0, 3, true), false);
        for (int odd : OUTSIDE) {
            due("none such", club.bar(odd, 0, true), false);
            due("none such", club.bar(0, odd, true), false);
        }
        due("ring", club.ring(3), 20);
        due("bar", club.bar(1, 0, true), true);
        due("bars of 0", club.personOf(0, 8), 2);
        due("bars of 1", club.personOf(1, 8), 1);
        due("bars of 2", club.personOf(2, 8), 0);
        due("again", club.bar(0, 1, true), false);
        due("no ring", club.ring(3), -1);
        due("lifted from the other side", club.bar(0, 1, false), true);
        due("ring", club.ring(3), 20);
        due("bars of 0", club.personOf(0, 8), 0);
        OddShoes four = club(1);
        four.price(0, 0, 1);
        both(four, 1, 2);
        both(four, 2, 3);
        both(four, 3, 4);
        both(four, 4, 1);
        due("ring of four", four.ring(15), 4);
        four.bar(0, 2, true);
        due("a bar between two who are not next", four.ring(15), -1);
        due("and no plan", four.plan(), 0);
    }

    private static void likes() {
        promise = "6";
        OddShoes club = three();
        club.price(0, 7, 3);
        due("likes", club.likes(2, 128), true);
        due("told", club.personOf(2, 1), 128);
        due("ring", club.ring(4), 3);
        due("all", club.likes(2, 255), true);
        due("ring", club.ring(4), 3);
        due("not that one", club.likes(2, 64), true);
        due("ring", club.ring(4), -1);
        due("0", club.likes(2, 0), false);
        due("256", club.likes(2, 256), false);
        due("-1", club.likes(2, -1), false);
        due("as before", club.personOf(2, 1), 64);
        due("none such", club.likes(3, 1), false);
        due("none such", club.likes(-1, 1), false);
        club.gone(2);
        due("who is gone is still such", club.likes(2, 5), true);
        due("one likes it, the other not", club.likes(0, 128), true);
        due("ring", club.ring(3), -1);
    }

    private static void gone() {
        promise = "7";
        OddShoes club = three();
        club.month(2);
        due("wait", club.personOf(2, 6), 2);
        due("gone", club.gone(2), true);
        due("again", club.gone(2), false);
        due("none such", club.gone(3), false);
        due("none such", club.gone(-1), false);
        due("gone", club.personOf(2, 7), 1);
        due("wait", club.personOf(2, 6), 0);
        club.month(3);
        due("waits no more", club.personOf(2, 6), 0);
        due("worth", club.personOf(2, 10), 100);
        due("waiting", club.count(8), 2);
        due("no ring", club.ring(4), -1);
        due("its trials stand", club.count(4), 6);
        due("need", need(club, 2, 0, 0, 0), 7);
        due("no shoes", club.single(0, 0, 0, 7) + club.single(0, 0, 1, 7) + club.hand(2), 1);
        club.plan();
        club.send();
        due("shod", club.personOf(0, 5), 3);
        due("gone", club.gone(0), true);
        due("not shod", club.personOf(0, 5), 0);
        due("how often it was", club.personOf(0, 9), 1);
        club.month(5);
        due("wait", club.personOf(0, 6), 0);
        due("not in plans", club.plan(), 0);
        due("a trial on who is gone", club.trial(0, 7, 2, 0, 0), 6);
    }

    private static void trial() {
        promise = "8";
        OddShoes club = club(2);
        club.person(true, false, 1, 0, 1);
        due("no such maker", club.trial(2, 5, 0, 0, 0), -1);
        due("size 0", club.trial(0, 0, 0, 0, 0), -1);
        due("size 61", club.trial(0, 61, 0, 0, 1), -1);
        due("no such person", club.trial(0, 5, 1, 0, 0), -1);
        due("no such foot", club.trial(0, 5, 0, 1, 0), -1);
        for (int odd : OUTSIDE) {
            due("maker", club.trial(odd, 5, 0, 0, 0), -1);
            due("size", club.trial(0, odd, 0, 0, 0), -1);
            due("person", club.trial(0, 5, odd, 0, 0), -1);
            due("side", club.trial(0, 5, 0, odd, 0), -1);
        }
        due("side 2", club.trial(0, 5, 0, 2, 0), -1);
        due("told 2", club.trial(0, 5, 0, 0, 2), -1);
        due("told -2", club.trial(0, 5, 0, 0, -2), -1);
        due("longer than 30", club.trial(0, 30, 0, 0, -1), -2);
        due("31 is right", club.trial(0, 31, 0, 0, 0), -2);
        due("shorter than 1", club.trial(0, 1, 0, 0, 1), -2);
        due("34 by another is right", club.trial(1, 34, 0, 0, 0), -2);
        due("33 by another is tight", club.trial(1, 33, 0, 0, -1), -2);
        due("60 is loose", club.trial(0, 60, 0, 0, 1), 0);
        due("33 by another is right", club.trial(1, 33, 0, 0, 0), 1);
        due("so it is 30", need(club, 0, 0, 0, 0), 30);
        due("29 is not right", club.trial(0, 29, 0, 0, 0), -2);
        due("29 is tight", club.trial(0, 29, 0, 0, -1), 2);
        due("trials", club.count(3), 3);
        due("tight and loose leave none", tightAndLoose(), -2);
        refusedTrial();
        fillTrials();
    }

    private static int tightAndLoose() {
        OddShoes club = club(1);
        club.person(true, true, 1, 0, 1);
        club.trial(0, 9, 0, 1, -1);
        return club.trial(0, 10, 0, 1, 1);
    }

    private static void refusedTrial() {
        OddShoes club = club(3);
        club.person(true, true, 1, 0, 1);
        club.trial(0, 9, 0, 0, 0);
        due("not possible", club.trial(1, 20, 0, 0, 0), -2);
        due("shift is not told by it", shift(club, 1, 0) * 10 + shift(club, 1, 1), -27);
        due("nor another one", shift(club, 2, 0) * 10 + shift(club, 2, 1), -27);
        due("nor a need", need(club, 0, 0, 1, 1) * 100 + need(club, 0, 1, 0, 1), 1230);
        due("nor a difference", differ(club, 0, 0, 0, 1, 1), 8);
        due("numbers go on", club.trial(1, 9, 0, 0, 0), 1);
    }

    private static void fillTrials() {
        OddShoes club = club(1);
        club.person(true, true, 1, 0, 1);
        for (int i = 0; i < 100; i++) {
            due("trial", club.trial(0, 9, 0, i % 2, 0), i);
        }
        due("a 101st", club.trial(0, 9, 0, 0, 0), -1);
        due("a 101st that is not possible", club.trial(0, 8, 0, 0, 0), -1);
        club.unsay(7);
        due("what is taken back stays as a number", club.trial(0, 9, 0, 0, 0), -1);
        due("trials", club.count(3), 100);
        due("that stand", club.count(4), 99);
        due("trial 99", club.trialOf(99, 1), 9);
        due("trial 100", club.trialOf(100, 1), -9);
        due("trial 100", club.unsay(100), false);
    }

    private static void trialsOfThoseWhoGrow() {
        OddShoes club = club(2);
        club.month(1);
        club.person(true, false, 1, 2, 1);
        club.trial(0, 5, 0, 0, 0);
        club.month(1);
        due("not grown yet", club.trial(0, 6, 0, 0, 0), -2);
        club.month(1);
        due("grown", club.trial(0, 6, 0, 0, 0), 1);
        due("and not as before", club.trial(0, 5, 0, 0, 0), -2);
        due("tight now", club.trial(0, 5, 0, 0, -1), 2);
        club.month(24);
        due("13 longer", need(club, 0, 0, 0, 1), 18);
        due("right", club.trial(1, 18, 0, 0, 0), 3);
        due("so the shift is 0", shift(club, 1, 0) * 10 + shift(club, 1, 1), 0);
        OddShoes long1 = club(1);
        long1.person(true, false, 1, 1, 1);
        for (int i = 0; i < 3; i++) {
            long1.month(24);
        }
        due("a foot may become longer than all shoes", need(long1, 0, 0, 0, 0), 73);
        due("60 is tight", long1.trial(0, 60, 0, 0, -1), 0);
        due("60 is not right", long1.trial(0, 60, 0, 0, 0), -2);
    }

    private static void unsay() {
        promise = "9";
        OddShoes club = club(1);
        club.person(true, true, 1, 0, 1);
        club.trial(0, 9, 0, 0, 0);
        club.trial(0, 20, 0, 0, 1);
        due("none such", club.unsay(2), false);
        due("none such", club.unsay(-1), false);
        due("unsay", club.unsay(0), true);
        due("it was", club.unsay(0), false);
        due("what still stands", need(club, 0, 0, 0, 1), 19);
        due("what no more", need(club, 0, 0, 0, 0), 1);
        due("numbers go on", club.trial(0, 8, 0, 0, 0), 2);
        due("trials", club.count(3), 3);
        due("that stand", club.count(4), 2);
        due("it stays as a number", club.trialOf(0, 1), 9);
    }

    private static void trialOf() {
        promise = "10";
        OddShoes club = club(3);
        club.person(true, true, 1, 0, 1);
        club.person(true, true, 1, 0, 1);
        club.month(5);
        club.trial(2, 17, 1, 1, -1);
        int[] facts = {2, 17, 1, 1, -1, 5, 1};
        club.month(2);
        for (int what = 0; what < facts.length; what++) {
            due("what " + what, club.trialOf(0, what), facts[what]);
        }
        club.unsay(0);
        due("taken back", club.trialOf(0, 6), 0);
        due("what 7", club.trialOf(0, 7), -9);
        due("what -1", club.trialOf(0, -1), -9);
        due("trial 1", club.trialOf(1, 0), -9);
        for (int odd : OUTSIDE) {
            due("trial", club.trialOf(odd, 0), -9);
            due("what", club.trialOf(0, odd), -9);
        }
        club.trial(0, 1, 0, 0, 1);
        due("what is not possible is no trial", club.trialOf(1, 0), -9);
    }

    private static void need() {
        promise = "11";
        OddShoes club = club(2);
        club.person(true, false, 1, 3, 1);
        due("least at first", need(club, 0, 0, 0, 0), 1);
        due("greatest at first", need(club, 0, 0, 0, 1), 30);
        due("least by another", need(club, 0, 0, 1, 0), -2);
        due("greatest by another", need(club, 0, 0, 1, 1), 33);
        due("no such foot", need(club, 0, 1, 0, 0), THROWS);
        due("no such maker", need(club, 0, 0, 2, 0), THROWS);
        due("no such person", need(club, 1, 0, 0, 0), THROWS);
        due("no such question", need(club, 0, 0, 0, 2), THROWS);
        for (int odd : OUTSIDE) {
            due("person", need(club, odd, 0, 0, 0), THROWS);
            due("side", need(club, 0, odd, 0, 0), THROWS);
            due("maker", need(club, 0, 0, odd, 0), THROWS);
            due("what", need(club, 0, 0, 0, odd), THROWS);
        }
        club.trial(1, 10, 0, 0, -1);
        due("tight by another: least", need(club, 0, 0, 1, 0), 11);
        due("tight by another: least of maker 0", need(club, 0, 0, 0, 0), 8);
        club.month(3);
        due("grown", need(club, 0, 0, 0, 0), 9);
        due("grown", need(club, 0, 0, 1, 1), 34);
        club.trial(0, 13, 0, 0, 1);
        due("loose now", need(club, 0, 0, 0, 1), 12);
        due("which tells of the other maker", need(club, 0, 0, 1, 1), 15);
        due("others by way of makers", needByWay(), 15);
    }

    /** What is told of one foot tells of a SHIFT, and so of another foot. */
    private static long needByWay() {
        OddShoes club = club(3);
        club.person(true, true, 1, 0, 1);
        club.person(true, true, 1, 0, 1);
        club.trial(0, 12, 0, 0, 0);
        club.trial(1, 10, 0, 0, 0);
        club.trial(1, 10, 0, 1, 0);
        club.trial(2, 11, 0, 1, 0);
        club.trial(2, 14, 1, 0, 0);
        return need(club, 1, 0, 0, 0) == need(club, 1, 0, 0, 1) ? need(club, 1, 0, 0, 0) : -77;
    }

    private static void shift() {
        promise = "12";
        OddShoes club = club(3);
        club.person(true, true, 1, 0, 1);
        due("maker 0", shift(club, 0, 0), 0);
        due("maker 0", shift(club, 0, 1), 0);
        due("least", shift(club, 2, 0), -3);
        due("greatest", shift(club, 2, 1), 3);
        due("no such", shift(club, 3, 0), THROWS);
        due("no such", shift(club, 1, 2), THROWS);
        for (int odd : OUTSIDE) {
            due("maker", shift(club, odd, 0), THROWS);
            due("what", shift(club, 1, odd), THROWS);
        }
        club.trial(0, 10, 0, 0, 0);
        club.trial(1, 9, 0, 0, -1);
        due("shorter than 10", shift(club, 1, 1), 0);
        due("least", shift(club, 1, 0), -3);
        club.trial(1, 11, 0, 0, 1);
        due("longer than 10", shift(club, 1, 0), 0);
        due("sure", shift(club, 1, 1), 0);
        due("not -4", club.trial(2, 14, 0, 0, 0), -2);
        due("-3", club.trial(2, 13, 0, 0, 0), 3);
        due("least", shift(club, 2, 0), -3);
        due("greatest", shift(club, 2, 1), -3);
        OddShoes two = club(3);
        two.person(true, true, 1, 0, 1);
        two.trial(1, 10, 0, 0, 0);
        two.trial(2, 4, 0, 0, 0);
        due("two shifts that tell of each other", shift(two, 1, 1), -3);
        due("two shifts that tell of each other", shift(two, 2, 0), 3);
        OddShoes way = club(3);
        way.person(true, true, 1, 0, 1);
        way.trial(0, 10, 0, 0, 0);
        way.trial(1, 10, 0, 0, 0);
        way.trial(2, 10, 0, 1, 0);
        due("a shift that is sure tells of needs", need(way, 0, 1, 1, 0) * 100 + need(way, 0, 1, 1, 1), 713);
    }

    private static void differ() {
        promise = "13";
        OddShoes club = club(2);
        club.person(true, true, 1, 2, 1);
        club.person(true, false, 1, 0, 1);
        due("least at first", differ(club, 0, 0, 1, 0, 0), -29);
        due("greatest at first", differ(club, 0, 0, 1, 0, 1), 29);
        due("a foot and itself", differ(club, 0, 0, 0, 0, 0), 0);
        due("a foot and itself", differ(club, 0, 0, 0, 0, 1), 0);
        club.trial(1, 9, 0, 0, 0);
        club.trial(1, 7, 1, 0, 0);
        due("by one maker, whatever its shift", differ(club, 0, 0, 1, 0, 0), 2);
        due("by one maker, whatever its shift", differ(club, 0, 0, 1, 0, 1), 2);
        due("the other way", differ(club, 1, 0, 0, 0, 1), -2);
        club.month(4);
        due("one has grown", differ(club, 0, 0, 1, 0, 0), 4);
        due("the other way", differ(club, 1, 0, 0, 0, 1), -4);
        club.trial(1, 9, 0, 1, 1);
        due("less than 9 by that maker", differ(club, 0, 0, 0, 1, 0), 3);
        due("greatest", differ(club, 0, 0, 0, 1, 1), 11);
        due("no such foot", differ(club, 1, 1, 0, 0, 0), THROWS);
        due("no such foot", differ(club, 0, 0, 1, 1, 0), THROWS);
        due("no such person", differ(club, 2, 0, 0, 0, 0), THROWS);
        due("no such person", differ(club, 0, 0, 2, 0, 0), THROWS);
        due("no such question", differ(club, 0, 0, 1, 0, 2), THROWS);
        for (int odd : OUTSIDE) {
            due("a", differ(club, odd, 0, 0, 0, 0), THROWS);
            due("side of a", differ(club, 0, odd, 0, 0, 0), THROWS);
            due("b", differ(club, 0, 0, odd, 0, 0), THROWS);
            due("side of b", differ(club, 0, 0, 0, odd, 0), THROWS);
            due("what", differ(club, 0, 0, 0, 1, odd), THROWS);
        }
    }

    private static void terms() {
        promise = "14";
        OddShoes club = three();
        club.month(2);
        due("at first", club.personOf(0, 10), 120);
        due("base 0", club.terms(0, 5), false);
        due("base 1001", club.terms(1001, 5), false);
        due("per -1", club.terms(5, -1), false);
        due("per 101", club.terms(5, 101), false);
        due("as before", club.personOf(0, 10), 120);
        due("least", club.terms(1, 0), true);
        due("worth", club.personOf(0, 10), 1);
        due("greatest", club.terms(1000, 100), true);
        due("worth", club.personOf(0, 10), 1200);
        due("plan", club.plan(), 3600);
        club.person(true, true, 1, 0, 3);
        fit(club, 3, 8, 8);
        due("those who came later wait less", club.plan(), 4600);
        OddShoes later = club(1);
        later.price(0, 0, 1);
        both(later, 1, 2);
        later.month(3);
        both(later, 2, 3);
        later.month(1);
        both(later, 3, 1);
        due("three who wait for 4, 1 and 0 months", later.plan(), 350);
    }

    private static void ring() {
        promise = "15";
        OddShoes club = three();
        due("of two", club.ring(3), 20);
        due("of one", club.ring(4), 10);
        due("no row", club.ring(7), -1);
        due("one who does not fit", club.ring(1), -1);
        due("none", club.ring(0), -1);
        due("others", club.ring(8), -1);
        due("others too", club.ring(3 + 8), -1);
        for (int odd : OUTSIDE) {
            due("others", club.ring(odd), -1);
        }
        due("high bits", club.ring(Integer.MIN_VALUE + 3), -1);
        club.price(1, 0, 1);
        due("not sure by the cheaper maker", club.ring(3), 20);
        club.trial(1, 4, 0, 0, 0);
        due("sure by it", club.ring(3), 2);
        club.plan();
        club.send();
        due("who is shod", club.ring(3), -1);
        OddShoes six = club(1);
        six.price(0, 0, 7);
        for (int i = 0; i < 6; i++) {
            both(six, 9, 9);
        }
        due("five", six.ring(31), 35);
        due("five others", six.ring(62), 35);
        due("six", six.ring(63), -1);
        ringOffers();
    }

    private static void ringOffers() {
        OddShoes club = club(3);
        for (int i = 0; i < 2; i++) {
            club.person(true, true, 255, 0, 1);
            fit(club, i, 9, 9);
        }
        club.trial(1, 8, 0, 0, 0);
        club.trial(2, 10, 0, 0, 0);
        club.price(2, 1, 5);
        club.price(1, 6, 5);
        club.price(1, 4, 5);
        club.price(0, 7, 6);
        due("least cost", club.ring(3), 10);
        club.plan();
        due("least maker", club.planOf(0, 1), 1);
        due("then style", club.planOf(0, 2), 4);
        club.price(0, 7, 5);
        club.plan();
        due("least maker", club.planOf(0, 1), 0);
        due("its style", club.planOf(0, 2), 7);
        club.price(2, 7, 4);
        due("least cost first", club.ring(3), 8);
        club.likes(1, 127);
        due("both must like it", club.ring(3), 10);
        club.likes(0, 2);
        due("the one that both like", club.ring(3), 10);
        club.plan();
        due("its maker", club.planOf(0, 1), 2);
        club.likes(0, 8);
        due("none that both like", club.ring(3), -1);
        ringRanks();
        for (int m = 0; m < 3; m++) {
            club.price(m, 3, 20 - m);
        }
        club.maker();
        for (int style = 0; style < 8; style++) {
            for (int m = 0; m < 4; m++) {
                club.price(m, style, 1000 - 8 * m - style);
            }
        }
        club.likes(0, 255);
        club.likes(1, 255);
        club.trial(3, 9, 1, 1, 0);
        due("32 offers, the last the cheapest", club.ring(3), 2 * 969);
        club.price(0, 0, 969);
        club.plan();
        due("as cheap, and the first", club.planOf(0, 1) * 10 + club.planOf(0, 2), 0);
    }

    /** Each offer must be found, however they came and changed. */
    private static void ringRanks() {
        OddShoes club = club(1);
        club.person(true, true, 1, 0, 1);
        fit(club, 0, 9, 9);
        for (int style = 0; style < 8; style++) {
            club.price(0, style, 80 - 10 * style);
        }
        for (int style = 0; style < 8; style++) {
            club.likes(0, 1 << style);
            due("style " + style, club.ring(1), 80 - 10 * style);
        }
        for (int style = 0; style < 8; style += 2) {
            club.price(0, style, 5 + style);
        }
        for (int style = 0; style < 8; style++) {
            club.likes(0, 1 << style);
            due("style " + style, club.ring(1), style % 2 == 0 ? 5 + style : 80 - 10 * style);
        }
        club.price(0, 0, 0);
        club.likes(0, 255);
        due("one less", club.ring(1), 7);
    }

    private static void ringsOfOneFooted() {
        OddShoes club = club(1);
        club.price(0, 0, 10);
        club.person(true, false, 1, 0, 1);
        club.person(false, true, 1, 0, 1);
        fit(club, 0, 8, 0);
        fit(club, 1, 0, 8);
        both(club, 8, 9);
        club.person(false, true, 1, 0, 1);
        fit(club, 3, 0, 9);
        due("a left and a right one: one pair", club.ring(3), 10);
        due("one foot alone", club.ring(1), -1);
        due("one foot alone", club.ring(2), -1);
        due("sizes that are unlike", club.ring(9), -1);
        due("two left shoes of three", club.ring(1 + 2 + 4), -1);
        due("one foot, both, the other foot", club.ring(1 + 4 + 8), -1);
        club.person(true, false, 1, 0, 1);
        fit(club, 4, 9, 0);
        due("9 to 9", club.ring(8 + 16), 10);
        due("right 8, both 8 9, left 9", club.ring(2 + 4 + 16), 20);
        due("begins with the least", club.ringOf(0), 1);
        due("then both", club.ringOf(1), 2);
        due("then the left foot", club.ringOf(2), 4);
        due("two with a left and two with a right foot", club.ring(1 + 2 + 8 + 16), 20);
        due("first by numbers", club.ringOf(0), 0);
        due("0 goes with who has no left foot", club.ringOf(1), 3);
        due("whose shoe is of the next one", club.ringOf(2), 4);
        due("last", club.ringOf(3), 1);
    }

    private static void ringsOfSureNeeds() {
        OddShoes club = club(2);
        club.price(0, 0, 10);
        club.person(true, true, 1, 0, 1);
        club.trial(1, 9, 0, 0, 0);
        club.trial(1, 9, 0, 1, 0);
        due("alike, but not sure by maker 0", club.ring(1), -1);
        club.price(1, 0, 30);
        due("sure by maker 1", club.ring(1), 30);
        due("in a plan too", club.plan(), 100);
        due("left shoe", club.planOf(0, 20), 9);
        due("maker", club.planOf(0, 1), 1);
        unsureFeet();
        OddShoes small = club(2);
        small.price(1, 0, 10);
        small.person(true, true, 1, 1, 1);
        fit(small, 0, 2, 2);
        small.person(true, true, 1, 0, 1);
        fit(small, 1, 9, 9);
        small.trial(1, 7, 1, 0, 0);
        due("shift 2, need 0", need(small, 0, 0, 1, 0), 0);
        due("no size 0", small.ring(1), -1);
        small.month(1);
        due("size 1", small.ring(1), 10);
        for (int i = 0; i < 2; i++) {
            small.month(24);
        }
        small.month(11);
        due("need", need(small, 0, 1, 1, 0), 60);
        due("size 60", small.ring(1), 10);
        small.month(1);
        due("no size 61", small.ring(1), -1);
        due("nor in a plan", small.plan(), 100 + 10 * 61);
    }

    private static void unsureFeet() {
        for (int side = 0; side < 2; side++) {
            OddShoes club = club(1);
            club.price(0, 0, 10);
            club.person(true, true, 1, 0, 1);
            club.trial(0, 9, 0, side, 0);
            club.trial(0, 8, 0, 1 - side, -1);
            club.trial(0, 11, 0, 1 - side, 1);
            both(club, 9, 9);
            both(club, 10, 9);
            both(club, 9, 10);
            for (int size = 1; size <= 12; size++) {
                club.single(0, 0, 0, size);
                club.single(0, 0, 1, size);
            }
            due("9 or 10", club.ring(1), -1);
            due("9 or 10 in another ring", club.ring(1 + 2), -1);
            due("9 or 10 in another ring", club.ring(1 + 4) + club.ring(1 + 8), -2);
            due("nor in a plan", club.plan(), 300);
            due("nor by hand", club.hand(0), -1);
            due("it is 9", club.trial(0, 10, 0, 1 - side, 1) >= 0, true);
            due("sure", club.ring(1), 10);
            due("by hand", club.hand(0), 0);
        }
    }

    private static void ringOf() {
        promise = "16";
        OddShoes club = club(1);
        club.price(0, 0, 1);
        both(club, 1, 2);
        both(club, 3, 1);
        both(club, 2, 3);
        due("none yet", club.ringOf(0), -1);
        due("ring", club.ring(7), 3);
        due("0", club.ringOf(0), 0);
        due("1", club.ringOf(1), 2);
        due("2", club.ringOf(2), 1);
        due("3", club.ringOf(3), -1);
        for (int odd : OUTSIDE) {
            due("no such", club.ringOf(odd), -1);
        }
        club.gone(0);
        club.month(1);
        club.plan();
        due("it is what was told", club.ringOf(1), 2);
        due("none", club.ring(7), -1);
        due("it told none", club.ringOf(0), -1);
        OddShoes five = club(1);
        five.price(0, 0, 1);
        for (int i = 0; i < 5; i++) {
            both(five, 4, 4);
        }
        due("ring", five.ring(31), 5);
        for (int i = 0; i < 5; i++) {
            due("first by numbers", five.ringOf(i), i);
        }
        OddShoes loops = club(1);
        loops.price(0, 0, 1);
        both(loops, 1, 2);
        both(loops, 2, 1);
        both(loops, 1, 2);
        both(loops, 2, 1);
        both(loops, 2, 2);
        due("several rows", loops.ring(31), 5);
        int[] row = {0, 1, 2, 4, 3};
        for (int i = 0; i < row.length; i++) {
            due("of several the first", loops.ringOf(i), row[i]);
        }
    }

    private static void plan() {
        promise = "17";
        OddShoes club = three();
        due("worth of all", club.plan(), 300);
        due("rings", club.count(5), 2);
        due("cost", club.count(6), 30);
        due("people", club.count(7), 3);
        OddShoes longest = club(1);
        longest.price(0, 0, 10);
        both(longest, 1, 2);
        both(longest, 2, 1);
        longest.month(1);
        both(longest, 2, 1);
        due("who waits longest", longest.plan(), 220);
        due("set", longest.planOf(0, 0), 3);
        due("greatest worth before least cost", worthBeforeCost(), 400);
        OddShoes cheap = club(1);
        cheap.price(0, 0, 10);
        cheap.price(0, 1, 3);
        both(cheap, 1, 2);
        both(cheap, 2, 1);
        both(cheap, 2, 1);
        cheap.likes(0, 3);
        cheap.likes(2, 3);
        due("least cost", cheap.plan(), 200);
        due("cost", cheap.count(6), 6);
        due("set", cheap.planOf(0, 0), 5);
        cheap.terms(1, 0);
        due("as all is now", cheap.plan(), 2);
        due("twelve in rings", twelve(), 1200);
        due("twelve alone", twelveAlone(), 1200);
        due("a loop of five", loopOf(5), 500);
        due("a loop of six is too long", loopOf(6), 0);
        due("a loop of twelve", loopOf(12), 0);
    }

    private static int twelveAlone() {
        OddShoes club = club(1);
        club.price(0, 0, 1000);
        for (int i = 0; i < 12; i++) {
            both(club, 3 + i, 3 + i);
        }
        int worth = club.plan();
        due("twelve rings", club.count(5), 12);
        due("the last", club.planOf(11, 0), 1 << 11);
        due("its size", club.planOf(11, 20), 14);
        due("ring 12", club.planOf(12, 0), -1);
        due("cost", club.count(6), 12000);
        due("all are shod", club.send(), 12);
        due("nobody waits", club.count(8), 0);
        due("and the last is shod", club.personOf(11, 5), 3);
        return worth;
    }

    /** Each one's right foot is as the left one of the next, and no others are. */
    private static int loopOf(int many) {
        OddShoes club = club(1);
        club.price(0, 0, 1);
        for (int i = 0; i < many; i++) {
            both(club, 1 + i, 1 + (i + 1) % many);
        }
        int worth = club.plan();
        due("rings", club.count(7) * 100, worth);
        due("ahead", club.ahead(1) * 100, worth);
        return worth;
    }

    private static int worthBeforeCost() {
        OddShoes club = club(1);
        club.price(0, 0, 1000);
        club.price(0, 1, 1);
        both(club, 1, 2);
        both(club, 2, 1);
        both(club, 1, 2);
        both(club, 2, 1);
        club.likes(0, 3);
        club.likes(2, 2);
        club.likes(1, 3);
        club.likes(3, 1);
        return club.plan();
    }

    private static int twelve() {
        OddShoes club = club(1);
        club.price(0, 0, 1);
        for (int i = 0; i < 12; i++) {
            both(club, 3 + i, 3 + (i % 4 == 3 ? i - 3 : i + 1));
        }
        int worth = club.plan();
        due("three rings", club.count(5), 3);
        due("of four", club.planOf(2, 0), 15 << 8);
        return worth;
    }

    private static void planTies() {
        OddShoes same = club(1);
        same.price(0, 0, 5);
        for (int i = 0; i < 4; i++) {
            both(same, 9, 9);
        }
        same.plan();
        due("each alone: the least set", same.count(5), 4);
        OddShoes swap = club(1);
        swap.price(0, 0, 5);
        both(swap, 1, 2);
        both(swap, 2, 1);
        both(swap, 1, 2);
        swap.plan();
        due("person 0 in no ring ahead of all", swap.planOf(0, 0), 6);
        OddShoes four = club(1);
        four.price(0, 0, 5);
        both(four, 1, 2);
        both(four, 2, 1);
        both(four, 2, 1);
        both(four, 1, 2);
        four.plan();
        due("the least set", four.planOf(0, 0), 3);
        due("then the rest", four.planOf(1, 0), 12);
        OddShoes last = club(1);
        last.price(0, 0, 5);
        both(last, 9, 9);
        both(last, 1, 2);
        both(last, 2, 1);
        both(last, 2, 1);
        last.plan();
        due("0 alone", last.planOf(0, 0), 1);
        due("then the least set of 1", last.planOf(1, 0), 6);
        due("and no more", last.planOf(2, 0), -1);
        OddShoes later = club(1);
        later.price(0, 0, 5);
        both(later, 1, 2);
        both(later, 1, 2);
        both(later, 2, 1);
        both(later, 3, 4);
        both(later, 4, 3);
        both(later, 4, 3);
        later.plan();
        due("0 in none", later.planOf(0, 0), 6);
        due("3 in the least", later.planOf(1, 0), 8 + 16);
    }

    private static void planOf() {
        promise = "18";
        OddShoes club = club(2);
        club.price(1, 3, 25);
        club.person(true, true, 8, 0, 1);
        club.person(true, false, 8, 0, 1);
        club.person(false, true, 8, 0, 1);
        fit(club, 0, 8, 9);
        fit(club, 1, 9, 0);
        fit(club, 2, 0, 8);
        club.trial(1, 6, 0, 0, 0);
        due("none yet", club.planOf(0, 0), -1);
        due("plan", club.plan(), 300);
        int[] facts = {7, 1, 3, 50};
        for (int what = 0; what < 4; what++) {
            due("what " + what, club.planOf(0, what), facts[what]);
        }
        int[] row = {0, 1, 2};
        int[] sizes = {6, 7, 0};
        for (int k = 0; k < 3; k++) {
            due("person " + k, club.planOf(0, 10 + k), row[k]);
            due("left shoe " + k, club.planOf(0, 20 + k), sizes[k]);
        }
        int[] others = {-1, 4, 9, 13, 14, 15, 19, 23, 24, 25, 30, Integer.MIN_VALUE, Integer.MAX_VALUE};
        for (int what : others) {
            due("what " + what, club.planOf(0, what), -1);
        }
        for (int odd : OUTSIDE) {
            due("ring " + odd, club.planOf(odd, 0), -1);
        }
        due("ring 1", club.planOf(1, 0), -1);
        due("send", club.send(), 3);
        club.price(1, 3, 30);
        due("it stays after that", club.planOf(0, 3), 50);
        due("none now", club.plan(), 0);
        due("and so none", club.planOf(0, 0), -1);
        OddShoes grow = club(1);
        grow.price(0, 0, 1);
        grow.person(true, true, 1, 1, 1);
        fit(grow, 0, 5, 5);
        grow.month(2);
        grow.plan();
        due("size now", grow.planOf(0, 20), 7);
        grow.month(2);
        due("as it was told", grow.planOf(0, 20), 7);
    }

    private static void send() {
        promise = "19";
        OddShoes club = three();
        due("there was none", club.send(), -1);
        club.month(1);
        club.plan();
        due("how many", club.send(), 3);
        due("shod", club.personOf(0, 5), 3);
        due("wait", club.personOf(0, 6), 0);
        due("how often", club.personOf(2, 9), 1);
        due("again", club.send(), -1);
        due("pairs", club.count(9), 3);
        due("cost", club.count(10), 30);
        club.month(3);
        due("waits anew", club.personOf(0, 6), 0);
        club.plan();
        due("how many", club.send(), 3);
        due("pairs in all", club.count(9), 6);
        due("cost in all", club.count(10), 60);
        due("how often", club.personOf(2, 9), 2);
        OddShoes none = club(1);
        none.plan();
        due("a plan without rings", none.send(), 0);
        due("it is done", none.send(), -1);
    }

    private static OddShoes planned() {
        OddShoes club = three();
        club.plan();
        return club;
    }

    private static void sendAfterCalls() {
        OddShoes x = planned();
        x.maker();
        due("maker", x.send(), -1);
        x = planned();
        x.price(1, 5, 9);
        due("price", x.send(), -1);
        x = planned();
        x.person(true, true, 1, 0, 1);
        due("person", x.send(), -1);
        x = planned();
        x.bar(0, 2, true);
        due("bar", x.send(), -1);
        x = planned();
        x.likes(0, 1);
        due("likes, the same", x.send(), -1);
        x = planned();
        x.gone(2);
        due("gone", x.send(), -1);
        due("nothing happens", x.personOf(0, 5) + x.count(9), 0);
        x = planned();
        x.trial(0, 5, 0, 0, 0);
        due("trial", x.send(), -1);
        x = planned();
        x.unsay(0);
        due("unsay", x.send(), -1);
        x = planned();
        x.terms(100, 10);
        due("terms", x.send(), -1);
        x = planned();
        x.month(1);
        due("month", x.send(), -1);
        x = planned();
        x.single(0, 0, 0, 5);
        due("single", x.send(), -1);
        x = three();
        x.single(0, 0, 0, 7);
        x.single(0, 0, 1, 7);
        x.plan();
        x.hand(2);
        due("hand", x.send(), -1);
        due("planned anew", x.plan(), 200);
        due("and sent", x.send(), 2);
        x = planned();
        refusedCalls(x);
        due("what was refused or but asked", x.send(), 3);
    }

    private static void refusedCalls(OddShoes x) {
        x.price(2, 0, 1);
        x.person(false, false, 1, 0, 1);
        x.bar(0, 1, false);
        x.likes(0, 0);
        x.gone(3);
        x.trial(0, 6, 0, 0, 0);
        x.trial(0, 99, 0, 0, 0);
        x.unsay(99);
        x.terms(0, 0);
        x.month(0);
        x.month(25);
        x.single(0, 0, 0, 61);
        x.hand(0);
        x.hand(9);
        x.ring(3);
        x.ring(99);
        x.ringOf(0);
        x.plan();
        x.planOf(0, 0);
        x.ahead(5);
        x.ahead(13);
        x.trialOf(0, 0);
        need(x, 0, 0, 0, 0);
        need(x, 9, 0, 0, 0);
        shift(x, 1, 0);
        differ(x, 0, 0, 1, 0, 0);
        x.stock(0, 0, 0, 1);
        x.personOf(0, 0);
        x.count(0);
    }

    private static void month() {
        promise = "20";
        OddShoes club = three();
        due("1", club.month(1), 1);
        due("24", club.month(24), 25);
        int[] odd = {0, 25, -1, Integer.MIN_VALUE, Integer.MAX_VALUE};
        for (int n : odd) {
            due("month " + n, club.month(n), -1);
        }
        due("as before", club.count(0), 25);
        due("wait", club.personOf(0, 6), 25);
        club.plan();
        club.send();
        club.month(1);
        due("shod one month less", club.personOf(0, 5), 2);
        due("does not wait", club.personOf(0, 6), 0);
        club.month(2);
        due("shod no more", club.personOf(0, 5), 0);
        due("waits from then on", club.personOf(0, 6), 0);
        club.month(2);
        due("wait", club.personOf(0, 6), 2);
        while (club.count(0) < 576) {
            club.month(Math.min(24, 576 - club.count(0)));
        }
        due("to 599", club.month(23), 599);
        due("above 600", club.month(2), -1);
        due("as before", club.count(0), 599);
        due("to 600", club.month(1), 600);
        due("above 600", club.month(1), -1);
        due("600", club.count(0), 600);
    }

    private static void ahead() {
        promise = "21";
        OddShoes club = three();
        due("0", club.ahead(0), 0);
        due("1", club.ahead(1), 3);
        due("2", club.ahead(2), 3);
        due("3", club.ahead(3), 3);
        due("4: all wait again after 3 months", club.ahead(4), 6);
        due("12", club.ahead(12), 12);
        int[] odd = {13, -1, Integer.MIN_VALUE, Integer.MAX_VALUE};
        for (int n : odd) {
            due("ahead " + n, club.ahead(n), -1);
        }
        due("nothing of that happens: month", club.count(0), 0);
        due("shod", club.personOf(0, 5), 0);
        due("how often", club.personOf(0, 9), 0);
        due("pairs", club.count(9) + club.count(10), 0);
        due("rings of the latest plan", club.count(5), 0);
        due("no plan to send", club.send(), -1);
        club.month(4);
        club.plan();
        club.send();
        club.month(1);
        due("two months later", club.ahead(2), 0);
        due("then", club.ahead(3), 3);
        due("shod as before", club.personOf(0, 5), 2);
        due("how often as before", club.personOf(0, 9), 1);
        OddShoes turns = club(1);
        turns.price(0, 0, 1);
        both(turns, 1, 2);
        both(turns, 2, 1);
        both(turns, 2, 1);
        due("0 with 1, then 0 with 2, who waits longer", turns.ahead(4), 4);
        turns.month(5);
        due("wait as before", turns.ahead(7) * 100 + turns.personOf(1, 6), 605);
    }

    private static void aheadOfThoseWhoGrow() {
        OddShoes child = club(1);
        child.price(0, 0, 1);
        child.person(true, false, 1, 2, 1);
        child.person(false, true, 1, 0, 1);
        fit(child, 0, 5, 0);
        fit(child, 1, 0, 7);
        due("not yet as long", child.ahead(4), 0);
        due("as long in month 4 and 5", child.ahead(5), 2);
        due("as long in month 4 and 5", child.ahead(6), 4);
        due("and too long then", child.ahead(12), 4);
        due("and now not grown", child.personOf(0, 4), 0);
    }

    private static void single() {
        promise = "22";
        OddShoes club = club(2);
        due("one", club.single(0, 0, 0, 1), 1);
        due("two", club.single(0, 0, 0, 1), 2);
        due("another side", club.single(0, 0, 1, 1), 1);
        due("another style", club.single(0, 7, 0, 60), 1);
        due("another maker", club.single(1, 7, 0, 60), 1);
        due("size 0", club.single(0, 0, 0, 0), -1);
        due("size 61", club.single(0, 0, 0, 61), -1);
        due("side 2", club.single(0, 0, 2, 1), -1);
        due("style 8", club.single(0, 8, 0, 1), -1);
        due("maker 2", club.single(2, 0, 0, 1), -1);
        for (int odd : OUTSIDE) {
            due("maker", club.single(odd, 0, 0, 1), -1);
            due("style", club.single(0, odd, 0, 1), -1);
            due("side", club.single(0, 0, odd, 1), -1);
            due("size", club.single(0, 0, 0, odd), -1);
        }
        due("in stock", club.count(11), 5);
        for (int i = 3; i <= 99; i++) {
            due("so many", club.single(0, 0, 0, 1), i);
        }
        due("99 are there", club.single(0, 0, 0, 1), -1);
        due("stock", club.stock(0, 0, 0, 1), 99);
        due("in stock", club.count(11), 102);
    }

    private static void hand() {
        promise = "23";
        OddShoes club = club(1);
        club.person(true, true, 0b10100, 0, 4);
        fit(club, 0, 8, 9);
        club.single(0, 2, 0, 8);
        club.single(0, 4, 1, 9);
        due("not of one style", club.hand(0), -1);
        club.single(0, 3, 0, 8);
        club.single(0, 3, 1, 9);
        due("a style that it does not like", club.hand(0), -1);
        club.single(0, 2, 1, 8);
        due("not the right one's need", club.hand(0), -1);
        club.month(2);
        club.single(0, 4, 0, 8);
        due("handed", club.hand(0), 4);
        due("taken", club.stock(0, 4, 0, 8) + club.stock(0, 4, 1, 9), 0);
        due("not taken", club.stock(0, 2, 0, 8), 1);
        due("handed out", club.count(12), 2);
        due("in stock", club.count(11), 4);
        due("shod", club.personOf(0, 5), 4);
        due("wait", club.personOf(0, 6), 0);
        due("how often", club.personOf(0, 9), 1);
        due("no pairs are sent", club.count(9), 0);
        club.single(0, 4, 0, 8);
        club.single(0, 4, 1, 9);
        due("who is shod", club.hand(0), -1);
        club.month(4);
        club.single(0, 2, 1, 9);
        due("of several the least", club.hand(0), 2);
        due("none such", club.hand(1), -1);
        for (int odd : OUTSIDE) {
            due("none such", club.hand(odd), -1);
        }
    }

    private static void handByMakers() {
        OddShoes club = club(3);
        club.person(false, true, 255, 0, 1);
        club.single(0, 1, 1, 9);
        club.single(1, 7, 1, 8);
        club.single(2, 0, 1, 8);
        due("not sure", club.hand(0), -1);
        club.trial(2, 8, 0, 1, 0);
        due("sure by one maker alone", club.hand(0), 20);
        due("one shoe for one foot", club.count(12), 1);
        club.month(1);
        club.single(2, 0, 1, 8);
        club.trial(1, 8, 0, 1, 0);
        due("the least maker", club.hand(0), 17);
        club.month(1);
        club.trial(0, 9, 0, 1, 0);
        due("the least maker", club.hand(0), 1);
        due("its left side is not asked", club.personOf(0, 9), 3);
        OddShoes none = club(4);
        none.person(true, true, 255, 0, 1);
        fit(none, 0, 9, 9);
        due("none by any of four", none.hand(0), -1);
        OddShoes grown = club(1);
        grown.person(true, false, 1, 1, 1);
        fit(grown, 0, 30, 0);
        grown.single(0, 0, 0, 60);
        grown.month(24);
        grown.month(6);
        due("size 60", grown.hand(0), 0);
        grown.month(1);
        due("a need of 61", grown.hand(0), -1);
    }

    private static void stock() {
        promise = "24";
        OddShoes club = club(1);
        due("none of a kind", club.stock(0, 7, 1, 60), 0);
        club.single(0, 7, 1, 60);
        due("one", club.stock(0, 7, 1, 60), 1);
        due("others", club.stock(0, 7, 1, 59) + club.stock(0, 7, 0, 60) + club.stock(0, 6, 1, 60), 0);
        due("maker 1", club.stock(1, 0, 0, 1), -1);
        due("style 8", club.stock(0, 8, 0, 1), -1);
        due("side 2", club.stock(0, 0, 2, 1), -1);
        due("size 0", club.stock(0, 0, 0, 0), -1);
        due("size 61", club.stock(0, 0, 0, 61), -1);
        for (int odd : OUTSIDE) {
            due("maker", club.stock(odd, 0, 0, 1), -1);
            due("style", club.stock(0, odd, 0, 1), -1);
            due("side", club.stock(0, 0, odd, 1), -1);
            due("size", club.stock(0, 0, 0, odd), -1);
        }
    }

    private static void personOf() {
        promise = "25";
        OddShoes club = club(1);
        club.month(1);
        club.person(false, true, 9, 3, 5);
        club.person(true, true, 1, 0, 1);
        club.bar(0, 1, true);
        club.month(7);
        int[] facts = {2, 9, 3, 5, 2, 0, 7, 0, 2, 0, 170};
        for (int what = 0; what < facts.length; what++) {
            due("what " + what, club.personOf(0, what), facts[what]);
        }
        fit(club, 0, 0, 9);
        club.single(0, 3, 1, 9);
        due("handed", club.hand(0), 3);
        int[] shod = {2, 9, 3, 5, 2, 5, 0, 0, 2, 1, 100};
        for (int what = 0; what < shod.length; what++) {
            due("shod: what " + what, club.personOf(0, what), shod[what]);
        }
        club.gone(0);
        club.month(2);
        int[] gone = {2, 9, 3, 5, 3, 0, 0, 1, 2, 1, 100};
        for (int what = 0; what < gone.length; what++) {
            due("gone: what " + what, club.personOf(0, what), gone[what]);
        }
        due("what 11", club.personOf(0, 11), -1);
        due("what -1", club.personOf(0, -1), -1);
        due("person 2", club.personOf(2, 0), -1);
        for (int odd : OUTSIDE) {
            due("person", club.personOf(odd, 0), -1);
            due("what", club.personOf(0, odd), -1);
        }
    }

    private static void count() {
        promise = "26";
        OddShoes club = three();
        club.person(true, false, 1, 0, 1);
        club.unsay(club.trial(0, 9, 3, 0, 1));
        club.month(2);
        club.plan();
        club.send();
        club.single(0, 0, 0, 4);
        club.single(0, 0, 0, 4);
        club.trial(0, 4, 3, 0, 0);
        club.hand(3);
        club.month(1);
        int[] facts = {3, 2, 4, 8, 7, 2, 30, 3, 1, 3, 30, 1, 1};
        for (int what = 0; what < facts.length; what++) {
            due("what " + what, club.count(what), facts[what]);
        }
        due("what 13", club.count(13), -1);
        for (int odd : OUTSIDE) {
            due("what " + odd, club.count(odd), -1);
        }
        club.plan();
        due("rings of the latest", club.count(5), 0);
        due("its cost", club.count(6), 0);
        due("its people", club.count(7), 0);
    }
}
