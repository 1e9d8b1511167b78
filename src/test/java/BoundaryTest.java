import java.io.IOException;
import java.nio.file.Files;
import java.nio.file.Path;
import java.util.ArrayList;
import java.util.LinkedHashMap;
import java.util.List;
import java.util.Map;
import java.util.NoSuchElementException;
import java.util.function.Supplier;

/**
 * A test of its own for each sentence of the document. Each is told by the document's words that it tests; that these
 * words stand there, and that no word of the Terms and of the promises is left without a test, is tested too.
 */
public final class BoundaryTest {
    private static final Path DOCUMENT = Path.of("../shared/DOC.md");
    private static final int[] FAR = {Integer.MIN_VALUE, Integer.MIN_VALUE + 1, -1000, -2, 1000000, Integer.MAX_VALUE};
    /** No such MAKER (of two), STYLE, side, SIZE. */
    private static final int[][] NO_KINDS = {{-1, 0, 0, 1}, {2, 0, 0, 1}, {4, 0, 0, 1}, {0, -1, 0, 1}, {0, 8, 0, 1},
        {0, 0, -1, 1}, {0, 0, 2, 1}, {0, 0, 0, 0}, {0, 0, 0, -1}, {0, 0, 0, 61}};
    private static final long THROWS = Long.MIN_VALUE;
    /** Questions on all parts of a club, in lists that each are for a club of their own. */
    private static final List<List<Call>> QUESTIONS = questions();
    private static final Map<String, List<String>> quoted = new LinkedHashMap<>();
    private static String saying = "";
    private static int tests = 0;
    private static int asked = 0;
    private static int wrong = 0;

    /** A call of the face, a boolean answer as 1 or 0. */
    private interface Call {
        long on(OddShoes x);
    }

    public static void main(String[] args) throws IOException {
        atMost512Calls();
        termsOfMakers();
        termsOfPeople();
        termsOfTrials();
        termsOfMonths();
        termsOfRings();
        termsOfTheRingOfASet();
        termsOfPlans();
        termsOfStock();
        promise1();
        promise2();
        promise3();
        promise4();
        promise5();
        promise6();
        promise7();
        promise8();
        promise9();
        promise10();
        promise11();
        promise12();
        promise13();
        promise14();
        promise15();
        promise16();
        promise17();
        promise18();
        promise19();
        promise20();
        promise21();
        promise22();
        promise23();
        promise24();
        promise25();
        promise26();
        allWordsAreTested();
        System.out.println(wrong == 0 ? tests + " sentences hold, by " + asked + " answers" : wrong + " wrong answers");
        if (wrong != 0) {
            System.exit(1);
        }
    }

    // ---- how a test is told, and what it asks

    private static void says(String section, String words, Runnable test) {
        quoted.computeIfAbsent(section, s -> new ArrayList<>()).add(words);
        saying = section + ": " + words;
        tests++;
        int before = asked;
        try {
            test.run();
        } catch (RuntimeException e) {
            fault("a call threw " + e);
        }
        if (asked == before) {
            fault("the test asks nothing");
        }
    }

    private static void fault(String what) {
        wrong++;
        System.out.println(saying + "\n    " + what);
    }

    private static void due(String call, long got, long want) {
        asked++;
        if (got != want) {
            fault(call + " answered " + told(got) + ", due is " + told(want));
        }
    }

    private static void due(String call, boolean got, boolean want) {
        due(call, got ? 1 : 0, want ? 1 : 0);
    }

    private static String told(long answer) {
        return answer == THROWS ? "throws.NoSuchElementException" : String.valueOf(answer);
    }

    /**
     * A call that is refused answers so, and afterwards many questions are answered as in a club without that call.
     * New clubs are made for some questions at a time, for each is used for 512 calls at most.
     */
    private static void refused(Supplier<OddShoes> club, String call, long want, Call made) {
        due(call, made.on(club.get()), want);
        asked++;
        for (List<Call> some : QUESTIONS) {
            OddShoes without = club.get();
            OddShoes with = club.get();
            made.on(with);
            for (int i = 0; i < some.size(); i++) {
                if (some.get(i).on(with) != some.get(i).on(without)) {
                    fault(call + " was refused, and changed something (question " + i + ")");
                    return;
                }
            }
        }
    }

    private static List<List<Call>> questions() {
        List<List<Call>> all = new ArrayList<>();
        all.add(List.of(OddShoes::send));
        all.add(List.of(OddShoes::plan, x -> x.count(5), x -> x.count(6), x -> x.ahead(3), OddShoes::send));
        List<Call> told = new ArrayList<>();
        List<Call> ofPeople = new ArrayList<>();
        for (int i = 0; i <= 12; i++) {
            int at = i;
            told.add(x -> x.count(at));
            told.add(x -> x.ringOf(at));
            for (int what = 0; what <= 24; what++) {
                int asks = what;
                told.add(x -> x.planOf(at, asks));
                ofPeople.add(x -> x.personOf(at, Math.min(asks, 10)));
            }
        }
        for (int set = 1; set < 32; set++) {
            int of = set;
            ofPeople.add(x -> x.ring(of));
        }
        all.add(told);
        all.add(ofPeople);
        all.add(questionsOfFeet());
        all.add(questionsOfStock());
        all.add(questionsOfTrials());
        return all;
    }

    private static List<Call> questionsOfFeet() {
        List<Call> all = new ArrayList<>();
        for (int maker = 0; maker < 4; maker++) {
            int by = maker;
            all.add(x -> shift(x, by, 0));
            all.add(x -> shift(x, by, 1));
            for (int foot = 0; foot < 24; foot++) {
                int person = foot / 2;
                int side = foot % 2;
                all.add(x -> need(x, person, side, by, 0));
                all.add(x -> need(x, person, side, by, 1));
                all.add(x -> differ(x, by / 2, by % 2, person, side, 1));
            }
        }
        return all;
    }

    private static List<Call> questionsOfStock() {
        List<Call> all = new ArrayList<>();
        int[] sizes = {1, 2, 5, 6, 7, 8, 9, 10, 60};
        for (int size : sizes) {
            for (int kind = 0; kind < 32; kind++) {
                int maker = kind / 16;
                int style = kind / 8 % 2 * 7;
                int side = kind % 2;
                all.add(x -> x.stock(maker, style, side, size));
            }
        }
        return all;
    }

    private static List<Call> questionsOfTrials() {
        List<Call> all = new ArrayList<>();
        for (int trial = 0; trial <= 100; trial++) {
            int of = trial;
            all.add(x -> x.trialOf(of, 1));
            all.add(x -> x.trialOf(of, 4));
            all.add(x -> x.trialOf(of, 6));
        }
        return all;
    }

    private static long need(OddShoes x, int person, int side, int maker, int what) {
        try {
            return x.need(person, side, maker, what);
        } catch (NoSuchElementException e) {
            return THROWS;
        }
    }

    private static long shift(OddShoes x, int maker, int what) {
        try {
            return x.shift(maker, what);
        } catch (NoSuchElementException e) {
            return THROWS;
        }
    }

    private static long differ(OddShoes x, int a, int sideA, int b, int sideB, int what) {
        try {
            return x.differ(a, sideA, b, sideB, what);
        } catch (NoSuchElementException e) {
            return THROWS;
        }
    }

    private static void dueNeed(OddShoes x, int person, int side, int maker, int least, int greatest) {
        String foot = "(" + person + ", " + side + ", " + maker + ", ";
        due("need" + foot + "0)", need(x, person, side, maker, 0), least);
        due("need" + foot + "1)", need(x, person, side, maker, 1), greatest);
    }

    private static void dueShift(OddShoes x, int maker, int least, int greatest) {
        due("shift(" + maker + ", 0)", shift(x, maker, 0), least);
        due("shift(" + maker + ", 1)", shift(x, maker, 1), greatest);
    }

    private static void dueRow(OddShoes x, int... row) {
        for (int i = 0; i < row.length; i++) {
            due("ringOf(" + i + ")", x.ringOf(i), row[i]);
        }
        due("ringOf(" + row.length + ")", x.ringOf(row.length), -1);
    }

    /** The sets of the RINGS of a new plan(). */
    private static void duePlan(OddShoes x, int worth, int... sets) {
        due("plan()", x.plan(), worth);
        due("count(5)", x.count(5), sets.length);
        for (int i = 0; i < sets.length; i++) {
            due("planOf(" + i + ", 0)", x.planOf(i, 0), sets[i]);
        }
    }

    // ---- clubs to begin with

    private static OddShoes club(int makers) {
        OddShoes x = new OddShoes();
        for (int i = 0; i < makers; i++) {
            x.maker();
        }
        return x;
    }

    /** One MAKER, who has STYLE 0 for 10. */
    private static OddShoes shop() {
        OddShoes x = club(1);
        x.price(0, 0, 10);
        return x;
    }

    /** Someone who LIKES STYLE 0, does not grow, whose shoes last 3 MONTHS; a LENGTH of 0 is for no foot. */
    private static int comes(OddShoes x, int left, int right) {
        return comes(x, left, right, 0, 3);
    }

    private static int comes(OddShoes x, int left, int right, int grows, int lasts) {
        int person = x.person(left > 0, right > 0, 1, grows, lasts);
        if (left > 0) {
            x.trial(0, left, person, 0, 0);
        }
        if (right > 0) {
            x.trial(0, right, person, 1, 0);
        }
        return person;
    }

    /** 0 and 1 are a RING, 2 is one alone; each COSTS 10 for a pair. */
    private static OddShoes three() {
        OddShoes x = shop();
        comes(x, 5, 6);
        comes(x, 6, 5);
        comes(x, 7, 7);
        return x;
    }

    private static OddShoes many(int people) {
        OddShoes x = shop();
        for (int i = 0; i < people; i++) {
            comes(x, 9, 9);
        }
        return x;
    }

    private static void months(OddShoes x, int n) {
        for (int left = n; left > 0; left -= 24) {
            x.month(Math.min(left, 24));
        }
    }

    // ---- what it is

    private static void atMost512Calls() {
        says("What it is", "An object is used for at most 512 calls after it has been made;", () -> {
            OddShoes x = new OddShoes();
            due("call 1", x.maker(), 0);
            due("call 2", x.price(0, 0, 10), true);
            for (int person = 0; person < 12; person++) {
                due("person", x.person(true, true, 255, 0, 1), person);
                due("left foot", x.trial(0, 9, person, 0, 0), 2 * person);
                due("right foot", x.trial(0, 9, person, 1, 0), 2 * person + 1);
                due("a left shoe", x.single(0, 7, 0, 9), person + 1);
                due("without a right one", x.hand(person), -1);
                due("alone", x.ring(1 << person), 10);
                due("likes", x.likes(person, 255), true);
                due("terms", x.terms(100, 10), true);
            }
            for (int call = 99; call <= 507; call += 3) {
                due("call " + call, x.plan(), 1200);
                due("call " + (call + 1), x.send(), 12);
                due("call " + (call + 2), x.month(1), (call - 99) / 3 + 1);
            }
            due("call 510", x.ring(31), 50);
            due("call 511", x.ahead(12), 144);
            due("call 512", x.count(10), 12 * 10 * 137);
        });
        says("What it is", "what later calls answer is free.", () -> {
            OddShoes x = three();
            for (int i = 0; i < 3000; i++) {
                x.single(0, i % 8, i % 2, 1 + i % 60);
                x.month(1);
                x.plan();
                x.send();
            }
            due("it still answers", x.count(13), -1);
        });
    }

    // ---- terms

    private static void termsOfMakers() {
        says("Terms", "MAKERS 0 .., 4 at most,", () -> {
            OddShoes x = new OddShoes();
            for (int i = 0; i < 4; i++) {
                due("maker()", x.maker(), i);
            }
            due("maker()", x.maker(), -1);
        });
        says("Terms", "each with a SHIFT, -3 .. 3, that nobody knows", BoundaryTest::shiftsAtMost3);
        says("Terms", "but that of MAKER 0, which is 0:", () -> {
            OddShoes x = club(1);
            dueShift(x, 0, 0, 0);
            comes(x, 10, 0);
            due("9 is right", x.trial(0, 9, 0, 0, 0), -2);
            due("11 is right", x.trial(0, 11, 0, 0, 0), -2);
            due("10 is right", x.trial(0, 10, 0, 0, 0), 1);
            dueShift(x, 0, 0, 0);
        });
        says("Terms", "a shoe of SIZE s (1 .. 60)", () -> {
            OddShoes x = club(1);
            x.person(true, true, 1, 0, 1);
            due("size 0", x.trial(0, 0, 0, 0, -1), -1);
            due("size 1", x.trial(0, 1, 0, 0, -1), 0);
            due("size 60", x.trial(0, 60, 0, 0, 1), 1);
            due("size 61", x.trial(0, 61, 0, 0, 1), -1);
        });
        says("Terms", "by a MAKER is s + SHIFT long.", () -> {
            OddShoes x = club(2);
            comes(x, 12, 0);
            x.person(true, false, 1, 0, 1);
            due("SHIFT 2", x.trial(1, 10, 0, 0, 0), 1);
            due("8 + 2", x.trial(1, 8, 1, 0, 0), 2);
            dueNeed(x, 1, 0, 0, 10, 10);
            due("9 + 2 is not right", x.trial(1, 9, 1, 0, 0), -2);
            due("9 + 2 is loose", x.trial(1, 9, 1, 0, 1), 3);
            due("7 + 2 is tight", x.trial(1, 7, 1, 0, -1), 4);
        });
        says("Terms", "STYLES 0 .. 7.", () -> {
            OddShoes x = club(1);
            due("style -1", x.price(0, -1, 5), false);
            due("style 0", x.price(0, 0, 5), true);
            due("style 7", x.price(0, 7, 5), true);
            due("style 8", x.price(0, 8, 5), false);
        });
        says("Terms", "PRICE of a pair of a MAKER in a STYLE (1 .. 1000),", () -> {
            OddShoes x = many(1);
            due("1", x.price(0, 0, 1), true);
            due("ring", x.ring(1), 1);
            due("1000", x.price(0, 0, 1000), true);
            due("ring", x.ring(1), 1000);
            due("1001", x.price(0, 0, 1001), false);
            due("-1", x.price(0, 0, -1), false);
            due("ring", x.ring(1), 1000);
        });
        says("Terms", "of all SIZES;", () -> {
            OddShoes x = shop();
            comes(x, 1, 1);
            comes(x, 30, 30, 1, 1);
            due("size 1", x.ring(1), 10);
            due("size 30", x.ring(2), 10);
            months(x, 30);
            due("size 60", x.ring(2), 10);
        });
        says("Terms", "without one there are none.", () -> {
            OddShoes x = club(2);
            comes(x, 9, 9);
            due("no price", x.ring(1), -1);
            x.price(0, 1, 10);
            due("a price in another style", x.ring(1), -1);
            x.price(1, 0, 10);
            due("a price of another maker, who is not sure", x.ring(1), -1);
            duePlan(x, 0);
            due("ahead", x.ahead(12), 0);
        });
    }

    private static void shiftsAtMost3() {
        OddShoes x = club(4);
        for (int maker = 1; maker < 4; maker++) {
            dueShift(x, maker, -3, 3);
        }
        comes(x, 10, 10);
        due("-4: 14 is right", x.trial(1, 14, 0, 0, 0), -2);
        due("4: 6 is right", x.trial(1, 6, 0, 0, 0), -2);
        due("13 is tight", x.trial(1, 13, 0, 0, -1), -2);
        due("7 is loose", x.trial(1, 7, 0, 0, 1), -2);
        due("12 is tight", x.trial(1, 12, 0, 0, -1), 2);
        dueShift(x, 1, -3, -3);
        due("8 is loose", x.trial(2, 8, 0, 0, 1), 3);
        dueShift(x, 2, 3, 3);
        due("13 is right", x.trial(1, 13, 0, 1, 0), 4);
        due("7 is right", x.trial(2, 7, 0, 1, 0), 5);
        dueShift(x, 3, -3, 3);
        OddShoes two = club(3);
        two.person(true, false, 1, 0, 1);
        two.trial(1, 11, 0, 0, 0);
        due("7 apart", two.trial(2, 4, 0, 0, 0), -2);
        due("6 apart", two.trial(2, 5, 0, 0, 0), 1);
        dueShift(two, 1, -3, -3);
        dueShift(two, 2, 3, 3);
        dueNeed(two, 0, 0, 0, 8, 8);
    }

    private static void termsOfPeople() {
        says("Terms", "PEOPLE 0 .., 12 at most.", () -> {
            OddShoes x = new OddShoes();
            for (int i = 0; i < 12; i++) {
                due("person", x.person(true, true, 1, 0, 1), i);
            }
            due("a 13th", x.person(true, true, 1, 0, 1), -1);
        });
        says("Terms", "A PERSON has a left foot (side 0), a right one (side 1), or one of them;", () -> {
            OddShoes x = club(1);
            x.person(true, true, 1, 0, 1);
            x.person(true, false, 1, 0, 1);
            x.person(false, true, 1, 0, 1);
            long[] left = {1, 1, THROWS};
            long[] right = {1, THROWS, 1};
            for (int person = 0; person < 3; person++) {
                due("left foot of " + person, need(x, person, 0, 0, 0), left[person]);
                due("right foot of " + person, need(x, person, 1, 0, 0), right[person]);
                due("side -1", need(x, person, -1, 0, 0), THROWS);
                due("side 2", need(x, person, 2, 0, 0), THROWS);
            }
        });
        says("Terms", "their LENGTHS, 1 .. 30 each when that one came, are not known.",
                BoundaryTest::lengthsWhenTheyCame);
        says("Terms", "LIKES: a set of STYLES (as bits: 1 for STYLE 0, 2 for 1, 4 ..), not empty.", () -> {
            OddShoes x = many(1);
            x.price(0, 0, 0);
            for (int style = 0; style < 8; style++) {
                x.price(0, style, 10 + style);
                x.likes(0, 1 << style);
                due("likes style " + style + " alone", x.ring(1), 10 + style);
                x.likes(0, 255 - (1 << style));
                due("likes all but style " + style, x.ring(1), style == 0 ? -1 : 10);
            }
            due("empty", x.likes(0, 0), false);
            due("empty", x.person(true, true, 0, 0, 1), -1);
        });
        says("Terms", "GROWS: 0,", () -> {
            OddShoes x = club(1);
            comes(x, 30, 1);
            months(x, 600);
            due("grown", x.personOf(0, 4), 0);
            dueNeed(x, 0, 0, 0, 30, 30);
            dueNeed(x, 0, 1, 0, 1, 1);
        });
        says("Terms", "or each so many MONTHS since that one came LENGTHS are 1 more.", BoundaryTest::growsSinceItCame);
        says("Terms", "LASTS: for so many MONTHS shoes do.", () -> {
            OddShoes x = shop();
            comes(x, 5, 5, 0, 1);
            comes(x, 7, 7, 0, 24);
            x.plan();
            x.send();
            x.month(1);
            due("1 month: shod", x.personOf(0, 5), 0);
            due("it waits", x.ring(1), 10);
            x.month(22);
            due("24 months: shod after 23", x.personOf(1, 5), 1);
            due("it does not wait", x.ring(2), -1);
            x.month(1);
            due("shod after 24", x.personOf(1, 5), 0);
            due("it waits", x.ring(2), 10);
        });
        says("Terms", "Two may have a BAR between them.", () -> {
            OddShoes x = many(12);
            due("bar", x.bar(0, 11, true), true);
            due("bars of 0", x.personOf(0, 8), 1 << 11);
            due("bars of 11", x.personOf(11, 8), 1);
            for (int other = 1; other < 11; other++) {
                due("bar", x.bar(11, other, true), true);
            }
            due("bars of 11 with all", x.personOf(11, 8), (1 << 11) - 1);
            due("ring of one with bars", x.ring(1 << 11), 10);
        });
    }

    private static void lengthsWhenTheyCame() {
        OddShoes x = club(2);
        x.person(true, true, 1, 1, 1);
        dueNeed(x, 0, 0, 0, 1, 30);
        dueNeed(x, 0, 1, 0, 1, 30);
        due("30 is tight", x.trial(0, 30, 0, 0, -1), -2);
        due("31 is right", x.trial(0, 31, 0, 0, 0), -2);
        due("1 is loose", x.trial(0, 1, 0, 0, 1), -2);
        due("34 of another maker is right", x.trial(1, 34, 0, 0, 0), -2);
        due("33 of another maker is tight", x.trial(1, 33, 0, 0, -1), -2);
        x.month(5);
        x.person(true, false, 1, 1, 1);
        dueNeed(x, 1, 0, 0, 1, 30);
        dueNeed(x, 0, 0, 0, 6, 35);
        due("5 is right on who came 5 months ago", x.trial(0, 5, 0, 0, 0), -2);
        due("36 is right", x.trial(0, 36, 0, 0, 0), -2);
        due("6 is right", x.trial(0, 6, 0, 0, 0), 0);
        due("35 is right on the other foot", x.trial(0, 35, 0, 1, 0), 1);
        due("30 is right on who came now", x.trial(0, 30, 1, 0, 0), 2);
        x.unsay(2);
        due("1 is right", x.trial(0, 1, 1, 0, 0), 3);
        OddShoes one = club(2);
        one.person(true, false, 1, 0, 1);
        due("4 of another maker is loose", one.trial(1, 4, 0, 0, 1), 0);
        due("1 of another maker is loose", one.trial(1, 1, 0, 0, 1), 1);
        dueShift(one, 1, 1, 3);
        dueNeed(one, 0, 0, 0, 1, 3);
    }

    private static void growsSinceItCame() {
        OddShoes x = club(1);
        x.month(2);
        comes(x, 4, 5, 3, 1);
        int[] grown = {0, 0, 0, 1, 1, 1, 2, 2, 2, 3};
        for (int months = 0; months < grown.length; months++) {
            due("grown after " + months, x.personOf(0, 4), grown[months]);
            dueNeed(x, 0, 0, 0, 4 + grown[months], 4 + grown[months]);
            dueNeed(x, 0, 1, 0, 5 + grown[months], 5 + grown[months]);
            x.month(1);
        }
        OddShoes y = club(1);
        y.month(1);
        y.person(true, true, 1, 24, 1);
        y.person(true, true, 1, 1, 1);
        y.month(23);
        due("24 months: after 23", y.personOf(0, 4), 0);
        due("1 month: after 23", y.personOf(1, 4), 23);
        y.month(1);
        due("24 months: after 24", y.personOf(0, 4), 1);
        months(y, 575);
        due("24 months: after 599", y.personOf(0, 4), 24);
        due("1 month: after 599", y.personOf(1, 4), 599);
        dueNeed(y, 1, 0, 0, 600, 629);
    }

    private static void termsOfTrials() {
        says("Terms", "A TRIAL, numbered from 0 on, 100 at most:", () -> {
            OddShoes x = club(1);
            x.person(true, true, 1, 0, 1);
            for (int i = 0; i < 100; i++) {
                due("trial", x.trial(0, 20, 0, i % 2, 1), i);
            }
            due("a 101st", x.trial(0, 20, 0, 0, 1), -1);
        });
        says("Terms", "a shoe of a MAKER and SIZE on a foot is told TIGHT "
                + "(-1: it is shorter than the foot is then),", () -> {
            OddShoes x = club(1);
            x.person(true, true, 1, 2, 1);
            x.trial(0, 9, 0, 0, -1);
            dueNeed(x, 0, 0, 0, 10, 30);
            dueNeed(x, 0, 1, 0, 1, 30);
            x.month(2);
            dueNeed(x, 0, 0, 0, 11, 31);
            x.trial(0, 11, 0, 0, -1);
            dueNeed(x, 0, 0, 0, 12, 31);
            due("30 is tight now", x.trial(0, 30, 0, 0, -1), 2);
            dueNeed(x, 0, 0, 0, 31, 31);
            due("31 is not", x.trial(0, 31, 0, 0, -1), -2);
        });
        says("Terms", "right (0: as long),", () -> {
            OddShoes x = club(1);
            x.person(true, true, 1, 1, 1);
            x.trial(0, 30, 0, 0, 0);
            dueNeed(x, 0, 0, 0, 30, 30);
            x.trial(0, 1, 0, 1, 0);
            dueNeed(x, 0, 1, 0, 1, 1);
            x.month(1);
            due("30 is right no more", x.trial(0, 30, 0, 0, 0), -2);
            due("31 is right then", x.trial(0, 31, 0, 0, 0), 2);
        });
        says("Terms", "or LOOSE (1: longer).", () -> {
            OddShoes x = club(1);
            x.person(true, true, 1, 2, 1);
            x.trial(0, 9, 0, 1, 1);
            dueNeed(x, 0, 1, 0, 1, 8);
            dueNeed(x, 0, 0, 0, 1, 30);
            due("2 is loose", x.trial(0, 2, 0, 1, 1), 1);
            dueNeed(x, 0, 1, 0, 1, 1);
            x.month(2);
            due("2 is loose no more", x.trial(0, 2, 0, 1, 1), -2);
            due("3 is loose then", x.trial(0, 3, 0, 1, 1), 2);
            dueNeed(x, 0, 1, 0, 2, 2);
        });
        says("Terms", "All that is told must be possible together:", BoundaryTest::possibleTogether);
        says("Terms", "SHIFTS and LENGTHS are whole numbers that agree with 1.", () -> {
            OddShoes x = club(2);
            x.person(true, true, 1, 0, 1);
            x.trial(0, 9, 0, 0, -1);
            due("9 is tight, 10 loose", x.trial(0, 10, 0, 0, 1), -2);
            due("9 is tight, 11 loose", x.trial(0, 11, 0, 0, 1), 1);
            dueNeed(x, 0, 0, 0, 10, 10);
            x.trial(1, 8, 0, 0, -1);
            due("8 is tight, 9 loose", x.trial(1, 9, 0, 0, 1), -2);
            due("8 is tight, 10 loose", x.trial(1, 10, 0, 0, 1), 3);
            dueShift(x, 1, 1, 1);
        });
        says("Terms", "and with all TRIALS that stand", () -> {
            OddShoes x = club(2);
            x.person(true, true, 1, 0, 1);
            x.trial(0, 9, 0, 0, 0);
            x.trial(1, 9, 0, 0, 0);
            due("while it stands", x.trial(0, 12, 0, 0, 0), -2);
            x.unsay(0);
            due("as it was taken back", x.trial(0, 12, 0, 0, 0), 2);
            dueShift(x, 1, 3, 3);
        });
        says("Terms", "(what would not is refused).", () -> {
            Supplier<OddShoes> club = () -> {
                OddShoes x = three();
                x.maker();
                x.trial(1, 6, 0, 1, -1);
                x.plan();
                return x;
            };
            refused(club, "4 is right", -2, x -> x.trial(0, 4, 0, 0, 0));
            refused(club, "5 is tight", -2, x -> x.trial(0, 5, 0, 0, -1));
            refused(club, "5 is loose", -2, x -> x.trial(0, 5, 0, 0, 1));
            refused(club, "5 of maker 1 is right", -2, x -> x.trial(1, 5, 0, 1, 0));
            due("send() of that club", club.get().send(), 3);
        });
        says("Terms", "What agrees with all is POSSIBLE.", () -> {
            for (int length = 1; length <= 30; length++) {
                OddShoes x = club(1);
                x.person(true, false, 1, 0, 1);
                x.trial(0, 5, 0, 0, -1);
                x.trial(0, 9, 0, 0, 1);
                due(length + " is right", x.trial(0, length, 0, 0, 0), length > 5 && length < 9 ? 2 : -2);
            }
        });
        says("Terms", "NEED of a foot by a MAKER: LENGTH now less SHIFT;", () -> {
            OddShoes x = club(3);
            comes(x, 10, 0, 4, 1);
            x.trial(1, 7, 0, 0, 0);
            x.trial(2, 13, 0, 0, 0);
            x.month(8);
            dueNeed(x, 0, 0, 0, 12, 12);
            dueNeed(x, 0, 0, 1, 9, 9);
            dueNeed(x, 0, 0, 2, 15, 15);
        });
        says("Terms", "its LEAST and its GREATEST of all that are POSSIBLE;", () -> {
            OddShoes x = club(2);
            comes(x, 10, 0);
            dueNeed(x, 0, 0, 1, 7, 13);
            x.trial(1, 11, 0, 0, 1);
            dueNeed(x, 0, 0, 1, 7, 10);
            x.trial(1, 7, 0, 0, -1);
            dueNeed(x, 0, 0, 1, 8, 10);
            x.person(true, false, 1, 0, 1);
            dueNeed(x, 1, 0, 0, 1, 30);
            dueNeed(x, 1, 0, 1, -1, 30);
        });
        says("Terms", "it is SURE if these are one.", () -> {
            OddShoes x = shop();
            x.person(true, true, 1, 0, 1);
            x.trial(0, 8, 0, 0, -1);
            x.trial(0, 11, 0, 0, 1);
            x.trial(0, 9, 0, 1, 0);
            due("9 or 10", x.ring(1), -1);
            x.trial(0, 10, 0, 0, 1);
            due("9", x.ring(1), 10);
        });
    }

    private static void possibleTogether() {
        OddShoes x = club(4);
        x.person(true, true, 1, 0, 1);
        x.person(true, true, 1, 0, 1);
        due("12 of 1", x.trial(1, 12, 0, 0, 0), 0);
        due("10 of 2 on the same foot", x.trial(2, 10, 0, 0, 0), 1);
        due("10 of 2", x.trial(2, 10, 0, 1, 0), 2);
        due("8 of 3 on the same foot", x.trial(3, 8, 0, 1, 0), 3);
        dueShift(x, 1, -3, -1);
        dueShift(x, 2, -1, 1);
        dueShift(x, 3, 1, 3);
        due("20 of 3", x.trial(3, 20, 1, 0, 0), 4);
        due("25 of 1 would be 5 apart", x.trial(1, 25, 1, 0, 0), -2);
        due("23 of 1 would be 3 apart", x.trial(1, 23, 1, 0, 0), -2);
        due("24 of 1 is 4 apart", x.trial(1, 24, 1, 0, 0), 5);
        due("and 22 of 2", x.trial(2, 22, 1, 0, 0), 6);
        due("20 of 0 would be SHIFT 0", x.trial(0, 20, 1, 0, 0), -2);
        due("21 of 0 is SHIFT 1", x.trial(0, 21, 1, 0, 0), 7);
        dueShift(x, 1, -3, -3);
        dueNeed(x, 0, 0, 0, 9, 9);
        dueNeed(x, 0, 1, 0, 9, 9);
        dueNeed(x, 1, 1, 0, 1, 30);
        OddShoes apart = club(3);
        comes(apart, 10, 20);
        apart.person(true, false, 1, 0, 1);
        due("SHIFT 3 by a left foot", apart.trial(1, 7, 0, 0, 0), 2);
        due("SHIFT -3 by a right foot", apart.trial(2, 23, 0, 1, 0), 3);
        due("10 of 1 is right on a third", apart.trial(1, 10, 1, 0, 0), 4);
        dueNeed(apart, 1, 0, 2, 16, 16);
        due("15 of 2 is not", apart.trial(2, 15, 1, 0, 0), -2);
    }

    private static void termsOfMonths() {
        says("Terms", "MONTH is a number, 0 at first.", () -> {
            due("count(0)", new OddShoes().count(0), 0);
        });
        says("Terms", "A PERSON is SHOD for some MONTHS more, or WAITS "
                + "(for WAIT MONTHS by now, 0 at first), until GONE.", () -> {
            OddShoes x = shop();
            x.month(7);
            comes(x, 9, 9);
            due("waits", x.count(8), 1);
            due("wait at first", x.personOf(0, 6), 0);
            x.month(2);
            due("wait by now", x.personOf(0, 6), 2);
            x.plan();
            x.send();
            due("shod", x.personOf(0, 5), 3);
            due("does not wait", x.count(8), 0);
            x.gone(0);
            due("gone: not shod", x.personOf(0, 5), 0);
            due("nor waiting", x.count(8), 0);
        });
        says("Terms", "As a MONTH goes by MONTH is one more;", () -> {
            OddShoes x = new OddShoes();
            due("month(1)", x.month(1), 1);
            due("count(0)", x.count(0), 1);
            due("month(1)", x.month(1), 2);
        });
        says("Terms", "who WAITS, WAITS one more;", () -> {
            OddShoes x = three();
            x.month(1);
            due("0", x.personOf(0, 6), 1);
            due("2", x.personOf(2, 6), 1);
            x.gone(2);
            x.month(1);
            due("0", x.personOf(0, 6), 2);
            due("who is gone", x.personOf(2, 6), 0);
            months(x, 598);
            due("at last", x.personOf(0, 6), 600);
        });
        says("Terms", "who is SHOD is so one MONTH less", () -> {
            OddShoes x = shop();
            comes(x, 9, 9, 0, 24);
            x.plan();
            x.send();
            for (int left = 24; left > 0; left--) {
                due("shod", x.personOf(0, 5), left);
                due("wait", x.personOf(0, 6), 0);
                x.month(1);
            }
            due("shod", x.personOf(0, 5), 0);
        });
        says("Terms", "(who is not any more WAITS from then on: WAIT 0);", () -> {
            OddShoes x = three();
            x.month(5);
            x.plan();
            x.send();
            x.month(3);
            due("waits", x.count(8), 3);
            due("wait", x.personOf(0, 6), 0);
            due("ring", x.ring(3), 20);
            x.month(1);
            due("wait", x.personOf(0, 6), 1);
            OddShoes y = three();
            y.plan();
            y.send();
            y.month(24);
            due("wait after 3 of 24 months", y.personOf(0, 6), 21);
        });
        says("Terms", "LENGTHS grow.", () -> {
            OddShoes x = shop();
            comes(x, 5, 5, 1, 1);
            comes(x, 6, 6, 2, 1);
            x.month(1);
            due("6 and 6", x.ring(3), 20);
            x.month(1);
            due("7 and 7", x.ring(3), 20);
            x.month(1);
            due("8 and 7", x.ring(3), -1);
            x.gone(0);
            x.month(1);
            due("of who is gone too", x.personOf(0, 4), 4);
        });
    }

    private static void termsOfRings() {
        says("Terms", "A RING of a MAKER and STYLE, for which there is a PRICE,", () -> {
            OddShoes x = many(1);
            due("price", x.ring(1), 10);
            x.price(0, 0, 0);
            due("none any more", x.ring(1), -1);
            x.price(0, 0, 3);
            due("again", x.ring(1), 3);
        });
        says("Terms", "is a row of 1 .. 5 unlike PEOPLE", () -> {
            OddShoes x = many(6);
            for (int many = 1; many <= 5; many++) {
                due("ring of " + many, x.ring((1 << many) - 1), 10 * many);
                due("ringOf the last", x.ringOf(many - 1), many - 1);
            }
            due("ring of 6", x.ring(63), -1);
            OddShoes loop = shop();
            for (int i = 0; i < 6; i++) {
                comes(loop, 1 + i, 1 + (i + 1) % 6);
            }
            duePlan(loop, 0);
            due("nor ahead", loop.ahead(12), 0);
            duePlan(loopOfFive(), 500, 31);
        });
        says("Terms", "who WAIT,", () -> {
            OddShoes x = three();
            x.single(0, 0, 0, 5);
            x.single(0, 0, 1, 6);
            due("ring", x.ring(3), 20);
            due("0 gets shoes", x.hand(0), 0);
            due("one is shod", x.ring(3), -1);
            due("who is not", x.ring(4), 10);
            duePlan(x, 100, 4);
            x.gone(2);
            due("who is gone", x.ring(4), -1);
            duePlan(x, 0);
            x.month(2);
            due("shod for one month more", x.ring(3), -1);
            x.month(1);
            due("waits", x.ring(3), 20);
        });
        says("Terms", "LIKE that STYLE,", () -> {
            OddShoes x = three();
            x.likes(1, 254);
            due("one does not", x.ring(3), -1);
            duePlan(x, 100, 4);
            x.likes(1, 129);
            due("both do", x.ring(3), 20);
            x.price(0, 7, 1);
            due("the other one does not like the cheaper", x.ring(3), 20);
            x.likes(0, 128);
            due("both like the cheaper", x.ring(3), 2);
        });
        says("Terms", "and have no BARS with one another;", () -> {
            OddShoes x = many(5);
            due("ring", x.ring(31), 50);
            x.bar(1, 4, true);
            due("two of five have one", x.ring(31), -1);
            due("one of them alone", x.ring(15), 40);
            due("the other one", x.ring(29), 40);
            due("both", x.ring(18), -1);
            OddShoes loop = shop();
            comes(loop, 1, 2);
            comes(loop, 2, 3);
            comes(loop, 3, 4);
            comes(loop, 4, 1);
            loop.bar(3, 1, true);
            due("who are not next to one another", loop.ring(15), -1);
            duePlan(loop, 0);
        });
        says("Terms", "all their feet's NEEDS by that MAKER are SURE,", BoundaryTest::allNeedsSure);
        says("Terms", "1 .. 60;", BoundaryTest::needsAreSizes);
        says("Terms", "and the NEED of the right foot of each is that of the left one of the next one", () -> {
            OddShoes x = shop();
            comes(x, 1, 2);
            comes(x, 3, 1);
            comes(x, 2, 3);
            due("0 2 1", x.ring(7), 30);
            dueRow(x, 0, 2, 1);
            due("2 is not 3", x.ring(3), -1);
            due("one of 1 and 2", x.ring(1), -1);
            OddShoes y = shop();
            comes(y, 1, 2);
            comes(y, 1, 2);
            due("alike, but not right to left", y.ring(3), -1);
            comes(y, 2, 2);
            due("one alone", y.ring(4), 10);
            due("no way back", y.ring(5), -1);
        });
        says("Terms", "(of the last one: of the first one);", () -> {
            OddShoes x = shop();
            comes(x, 1, 2);
            comes(x, 2, 3);
            comes(x, 3, 4);
            due("no way back to 1", x.ring(7), -1);
            x.unsay(5);
            due("it is 1", x.trial(0, 1, 2, 1, 0), 6);
            due("ring", x.ring(7), 30);
            dueRow(x, 0, 1, 2);
            comes(x, 1, 1);
            comes(x, 4, 5);
            due("the last is the first", x.ring(8), 10);
            due("and is not", x.ring(16), -1);
        });
        says("Terms", "who has not one of these feet goes with who has not the other one there.",
                BoundaryTest::oneFooted);
        says("Terms", "Its pairs: as many as have a left foot, each of that SIZE.", () -> {
            OddShoes x = shop();
            comes(x, 8, 9);
            comes(x, 9, 0);
            comes(x, 0, 8);
            duePlan(x, 300, 7);
            due("left shoe of 0", x.planOf(0, 20), 8);
            due("left shoe of 1", x.planOf(0, 21), 9);
            due("left shoe of 2", x.planOf(0, 22), 0);
            x.send();
            due("pairs", x.count(9), 2);
        });
        says("Terms", "COST: PRICE times these.", () -> {
            OddShoes x = shop();
            x.price(0, 0, 1000);
            for (int i = 0; i < 4; i++) {
                comes(x, 9, 9);
            }
            comes(x, 9, 0);
            comes(x, 0, 9);
            due("4 pairs", x.ring(15), 4000);
            due("1 pair for two", x.ring(48), 1000);
            due("3 pairs for four", x.ring(51), 3000);
            due("4 pairs for five", x.ring(55), 4000);
        });
    }

    private static void termsOfTheRingOfASet() {
        says("Terms", "The RING of a set of PEOPLE, if there is one: of all of the least COST,", () -> {
            OddShoes x = shop();
            x.maker();
            comes(x, 9, 9);
            x.trial(1, 9, 0, 0, 0);
            x.price(1, 0, 9);
            due("9", x.ring(1), 9);
            x.price(0, 0, 8);
            due("8", x.ring(1), 8);
            x.price(0, 1, 7);
            due("7, which it does not like", x.ring(1), 8);
            x.likes(0, 3);
            due("7", x.ring(1), 7);
        });
        says("Terms", "of these of the least MAKER,", () -> {
            OddShoes x = club(4);
            for (int maker = 3; maker >= 0; maker--) {
                x.price(maker, maker == 1 ? 7 : 3, maker == 0 ? 6 : 5);
            }
            comes(x, 9, 9);
            x.likes(0, 255);
            for (int maker = 1; maker < 4; maker++) {
                x.trial(maker, 9, 0, 0, 0);
            }
            x.plan();
            due("maker", x.planOf(0, 1), 1);
            due("style", x.planOf(0, 2), 7);
            x.price(0, 3, 5);
            x.plan();
            due("maker", x.planOf(0, 1), 0);
        });
        says("Terms", "then STYLE;", () -> {
            OddShoes x = many(1);
            x.likes(0, 254);
            for (int style = 7; style >= 0; style--) {
                x.price(0, style, 10);
                x.plan();
                due("style", x.planOf(0, 2), Math.max(style, 1));
            }
        });
        says("Terms", "it begins with its least PERSON,", () -> {
            OddShoes x = shop();
            comes(x, 9, 8);
            comes(x, 3, 1);
            comes(x, 2, 3);
            comes(x, 1, 2);
            due("ring", x.ring(14), 30);
            dueRow(x, 1, 3, 2);
            x.plan();
            due("planOf(0, 10)", x.planOf(0, 10), 1);
        });
        says("Terms", "and of several rows it is the first by numbers.", () -> {
            OddShoes x = shop();
            comes(x, 1, 2);
            comes(x, 2, 2);
            comes(x, 1, 1);
            comes(x, 2, 1);
            comes(x, 2, 2);
            due("ring", x.ring(31), 50);
            dueRow(x, 0, 1, 4, 3, 2);
            OddShoes y = shop();
            comes(y, 1, 2);
            comes(y, 2, 1);
            comes(y, 2, 1);
            comes(y, 1, 2);
            due("ring", y.ring(15), 40);
            dueRow(y, 0, 1, 3, 2);
        });
    }

    private static void allNeedsSure() {
        for (int side = 0; side < 2; side++) {
            OddShoes x = shop();
            comes(x, 9, 9);
            x.person(true, true, 1, 0, 1);
            x.trial(0, 9, 1, side, 0);
            x.trial(0, 8, 1, 1 - side, -1);
            x.trial(0, 11, 1, 1 - side, 1);
            due("a foot of 9 or 10", x.ring(2), -1);
            due("and with another", x.ring(3), -1);
            duePlan(x, 100, 1);
            x.trial(0, 10, 1, 1 - side, 1);
            due("9", x.ring(3), 20);
        }
        OddShoes x = shop();
        x.maker();
        x.person(true, true, 1, 0, 1);
        x.trial(1, 9, 0, 0, 0);
        x.trial(1, 9, 0, 1, 0);
        due("sure by a maker without a price", x.ring(1), -1);
        x.price(1, 0, 500);
        due("by that maker", x.ring(1), 500);
        OddShoes y = shop();
        y.person(true, false, 1, 0, 1);
        y.person(false, true, 1, 0, 1);
        y.trial(0, 9, 0, 0, 0);
        due("one of two has no trial", y.ring(3), -1);
        y.trial(0, 9, 1, 1, 0);
        due("both have", y.ring(3), 10);
    }

    private static void needsAreSizes() {
        OddShoes x = club(3);
        x.price(1, 0, 10);
        x.price(2, 0, 20);
        comes(x, 3, 3, 1, 1);
        comes(x, 30, 30, 1, 1);
        x.trial(1, 27, 1, 0, 0);
        x.trial(2, 33, 1, 0, 0);
        due("need 0 of maker 1, 6 of maker 2", x.ring(1), 20);
        x.price(2, 0, 0);
        due("need 0", x.ring(1), -1);
        duePlan(x, 100, 2);
        x.month(1);
        due("need 1", x.ring(1), 10);
        months(x, 26);
        x.price(2, 0, 20);
        due("54 of maker 1", x.ring(2), 10);
        x.price(1, 0, 0);
        due("60 of maker 2", x.ring(2), 20);
        x.month(1);
        due("61 of maker 2", x.ring(2), -1);
        x.price(1, 0, 10);
        months(x, 5);
        due("60 of maker 1", x.ring(2), 10);
        x.month(1);
        due("61 of maker 1", x.ring(2), -1);
        duePlan(x, 100 + 34 * 10, 1);
        OddShoes all = shop();
        comes(all, 1, 1, 1, 1);
        comes(all, 0, 1, 1, 1);
        comes(all, 1, 0, 1, 1);
        for (int size = 1; size <= 60; size++) {
            due("ring of " + size, all.ring(1), 10);
            due("one pair of " + size, all.ring(6), 10);
            duePlan(all, 300 + 30 * (size - 1), 1, 6);
            due("left shoe", all.planOf(0, 20), size);
            all.month(1);
        }
        duePlan(all, 0);
    }

    private static void oneFooted() {
        OddShoes x = shop();
        comes(x, 8, 0);
        comes(x, 0, 8);
        comes(x, 9, 0);
        comes(x, 0, 9);
        comes(x, 8, 9);
        due("left 8 and right 8", x.ring(3), 10);
        dueRow(x, 0, 1);
        due("left 8 alone", x.ring(1), -1);
        due("right 8 alone", x.ring(2), -1);
        due("left 8 and right 9", x.ring(9), -1);
        due("left 8 and left 9", x.ring(5), -1);
        due("right 8 and right 9", x.ring(10), -1);
        due("right 8, both, left 9", x.ring(2 + 16 + 4), 20);
        dueRow(x, 1, 4, 2);
        due("left 8, both, right 9", x.ring(1 + 16 + 8), -1);
        due("two pairs", x.ring(15), 20);
        dueRow(x, 0, 3, 2, 1);
        due("left 8, both 8 9, right 8", x.ring(1 + 2 + 16), -1);
        due("left 8, right 9, left 9, right 8, both", x.ring(31), -1);
        comes(x, 9, 8);
        due("a left, a right, and two with both", x.ring(1 + 2 + 16 + 32), 30);
        dueRow(x, 0, 1, 4, 5);
    }

    private static void termsOfPlans() {
        says("Terms", "WORTH of a PERSON: BASE and PER times WAIT", () -> {
            OddShoes x = three();
            due("0 months", x.personOf(0, 10), 100);
            x.month(7);
            due("7 months", x.personOf(0, 10), 170);
            x.terms(3, 100);
            due("3 and 7 times 100", x.personOf(0, 10), 703);
            x.terms(3, 0);
            due("3 and 7 times 0", x.personOf(0, 10), 3);
            x.plan();
            x.send();
            x.terms(5, 50);
            due("who is shod", x.personOf(0, 10), 5);
            x.gone(0);
            x.month(1);
            due("who is gone", x.personOf(0, 10), 5);
        });
        says("Terms", "(BASE 1 .. 1000,", () -> {
            OddShoes x = three();
            due("0", x.terms(0, 10), false);
            due("1", x.terms(1, 10), true);
            due("worth", x.personOf(0, 10), 1);
            due("1000", x.terms(1000, 10), true);
            due("worth", x.personOf(0, 10), 1000);
            due("1001", x.terms(1001, 10), false);
            due("worth", x.personOf(0, 10), 1000);
        });
        says("Terms", "PER 0 .. 100;", () -> {
            OddShoes x = three();
            x.month(1);
            due("-1", x.terms(7, -1), false);
            due("0", x.terms(7, 0), true);
            due("worth", x.personOf(0, 10), 7);
            due("100", x.terms(7, 100), true);
            due("worth", x.personOf(0, 10), 107);
            due("101", x.terms(7, 101), false);
            due("worth", x.personOf(0, 10), 107);
        });
        says("Terms", "100 and 10 at first).", () -> {
            OddShoes x = three();
            due("base", x.plan(), 300);
            x.month(1);
            due("and per", x.plan(), 330);
        });
        says("Terms", "A PLAN: RINGS of sets no two of which have a PERSON together;", () -> {
            OddShoes x = shop();
            comes(x, 1, 2);
            comes(x, 2, 1);
            comes(x, 2, 1);
            due("ring of 0 and 1", x.ring(3), 20);
            due("ring of 0 and 2", x.ring(5), 20);
            due("plan", x.plan(), 200);
            due("rings", x.count(5), 1);
            due("people", x.count(7), 2);
        });
        says("Terms", "of all such of the greatest WORTH of those in them together,", BoundaryTest::greatestWorth);
        says("Terms", "of these of the least COST in all;", BoundaryTest::leastCost);
        says("Terms", "of several: PERSON 0 in no RING ahead of all,", () -> {
            OddShoes x = shop();
            comes(x, 1, 2);
            comes(x, 2, 1);
            comes(x, 1, 2);
            duePlan(x, 200, 6);
            OddShoes y = shop();
            comes(y, 1, 2);
            comes(y, 2, 1);
            comes(y, 1, 2);
            y.terms(100, 0);
            y.price(0, 0, 1000);
            duePlan(y, 200, 6);
            comes(y, 2, 1);
            duePlan(y, 400, 3, 12);
            OddShoes z = shop();
            comes(z, 1, 2);
            comes(z, 1, 2);
            comes(z, 2, 1);
            duePlan(z, 200, 6);
        });
        says("Terms", "then the least set (as bits) that it is in;", () -> {
            OddShoes x = many(5);
            duePlan(x, 500, 1, 2, 4, 8, 16);
            OddShoes y = shop();
            comes(y, 1, 2);
            comes(y, 1, 2);
            comes(y, 2, 1);
            comes(y, 2, 1);
            duePlan(y, 400, 5, 10);
            OddShoes z = shop();
            comes(z, 1, 2);
            comes(z, 2, 3);
            comes(z, 3, 1);
            comes(z, 2, 1);
            comes(z, 3, 2);
            comes(z, 9, 9);
            duePlan(z, 500, 9, 18, 32);
        });
        says("Terms", "then likewise the least PERSON that is not yet in one, ..", () -> {
            OddShoes x = shop();
            comes(x, 9, 9);
            comes(x, 1, 2);
            comes(x, 2, 1);
            comes(x, 1, 2);
            comes(x, 5, 6);
            comes(x, 6, 5);
            comes(x, 6, 5);
            duePlan(x, 500, 1, 12, 48);
            OddShoes y = shop();
            comes(y, 1, 2);
            comes(y, 3, 4);
            comes(y, 2, 1);
            comes(y, 4, 3);
            comes(y, 4, 3);
            comes(y, 2, 1);
            duePlan(y, 400, 5, 10);
            comes(y, 3, 4);
            comes(y, 3, 4);
            duePlan(y, 600, 5, 8 + 64, 16 + 128);
        });
    }

    private static void termsOfStock() {
        says("Terms", "STOCK: single shoes, by MAKER, STYLE, side, SIZE", () -> {
            OddShoes x = club(2);
            x.single(1, 7, 1, 60);
            due("that kind", x.stock(1, 7, 1, 60), 1);
            due("another maker", x.stock(0, 7, 1, 60), 0);
            due("another style", x.stock(1, 6, 1, 60), 0);
            due("another side", x.stock(1, 7, 0, 60), 0);
            due("another size", x.stock(1, 7, 1, 59), 0);
            due("all", x.count(11), 1);
        });
        says("Terms", "(99 of each at most).", () -> {
            OddShoes x = club(1);
            for (int i = 1; i <= 99; i++) {
                due("single", x.single(0, 0, 0, 1), i);
            }
            due("a 100th", x.single(0, 0, 0, 1), -1);
            for (int i = 1; i <= 99; i++) {
                due("single of another", x.single(0, 0, 0, 2), i);
            }
            due("all", x.count(11), 198);
        });
    }

    private static void greatestWorth() {
        OddShoes x = shop();
        comes(x, 1, 2);
        comes(x, 2, 1);
        x.month(1);
        comes(x, 2, 1);
        x.terms(1, 1);
        duePlan(x, 4, 3);
        OddShoes dear = shop();
        dear.terms(1, 0);
        dear.price(0, 0, 1000);
        dear.price(0, 1, 1);
        for (int i = 0; i < 3; i++) {
            comes(dear, i + 1, i == 2 ? 1 : i + 2);
        }
        comes(dear, 2, 1);
        dear.likes(0, 3);
        dear.likes(3, 2);
        duePlan(dear, 3, 7);
        due("three for 3000 are ahead of two for 2", dear.count(6), 3000);
        OddShoes full = shop();
        full.price(0, 0, 1000);
        full.terms(1000, 100);
        for (int i = 0; i < 12; i++) {
            comes(full, 9, 9);
        }
        months(full, 600);
        due("all twelve at last", full.plan(), 12 * 61000);
        due("cost", full.count(6), 12000);
    }

    private static void leastCost() {
        OddShoes x = shop();
        x.price(0, 1, 9);
        comes(x, 1, 2);
        comes(x, 2, 1);
        comes(x, 2, 1);
        x.likes(0, 3);
        x.likes(2, 2);
        duePlan(x, 200, 5);
        due("cost", x.count(6), 18);
        OddShoes fewer = shop();
        comes(fewer, 1, 2);
        comes(fewer, 2, 3);
        comes(fewer, 3, 1);
        comes(fewer, 2, 0);
        comes(fewer, 0, 1);
        duePlan(fewer, 300, 25);
        due("two pairs and not three", fewer.count(6), 20);
        fewer.price(0, 1, 7);
        fewer.likes(0, 3);
        fewer.likes(1, 2);
        fewer.likes(2, 2);
        due("three pairs for 7 each", fewer.ring(7), 21);
        duePlan(fewer, 300, 25);
        fewer.price(0, 1, 6);
        duePlan(fewer, 300, 7);
        OddShoes inAll = club(1);
        int[] prices = {1, 100, 10, 10};
        int[] likes = {1 + 4, 1 + 8, 2 + 8, 2 + 4};
        for (int i = 0; i < 4; i++) {
            inAll.price(0, i, prices[i]);
            comes(inAll, 1 + i % 2, 2 - i % 2);
            inAll.likes(i, likes[i]);
        }
        due("the cheapest ring", inAll.ring(3), 2);
        due("what it leaves", inAll.ring(12), 200);
        duePlan(inAll, 400, 9, 6);
        due("in all", inAll.count(6), 40);
    }

    // ---- promises

    /** Two makers; the RINGS of 0 and 1 and of 2 alone are planned for 30; a BAR, a TRIAL taken back, two shoes. */
    private static OddShoes busy() {
        OddShoes x = three();
        x.maker();
        x.price(1, 7, 20);
        x.single(0, 0, 0, 9);
        x.single(0, 7, 1, 60);
        x.bar(0, 2, true);
        x.unsay(x.trial(1, 9, 2, 0, -1));
        x.month(2);
        x.ring(3);
        x.plan();
        return x;
    }

    private static void promise1() {
        says("1", "No MAKERS, PEOPLE, TRIALS, PRICES;", BoundaryTest::nothingAtFirst);
        says("1", "MONTH 0;", () -> due("count(0)", new OddShoes().count(0), 0));
        says("1", "an empty STOCK.", () -> {
            for (int style = 0; style < 8; style++) {
                OddShoes x = club(4);
                for (int kind = 0; kind < 480; kind++) {
                    due("stock", x.stock(kind / 120, style, kind / 60 % 2, kind % 60 + 1), 0);
                }
                due("all", x.count(11), 0);
            }
        });
    }

    private static void promise2() {
        says("2", "A MAKER: its number;", () -> {
            OddShoes x = new OddShoes();
            due("maker()", x.maker(), 0);
            due("count(1)", x.count(1), 1);
            due("maker()", x.maker(), 1);
            due("count(1)", x.count(1), 2);
            due("another club's first", new OddShoes().maker(), 0);
        });
        says("2", "NONE: 4 are there.", () -> {
            due("the fourth", club(3).maker(), 3);
            refused(() -> club(4), "the fifth", -1, OddShoes::maker);
            refused(() -> {
                OddShoes x = busy();
                x.maker();
                x.maker();
                x.plan();
                return x;
            }, "the fifth of a busy club", -1, OddShoes::maker);
            OddShoes full = club(4);
            full.maker();
            due("price of a fifth", full.price(4, 0, 1), false);
            due("stock of a fifth", full.stock(4, 0, 0, 1), -1);
        });
    }

    private static void promise3() {
        says("3", "PRICE of a MAKER and STYLE", () -> {
            OddShoes x = busy();
            due("price", x.price(1, 3, 4), true);
            x.likes(2, 8);
            due("not sure by maker 1", x.ring(4), -1);
            x.trial(1, 7, 2, 0, 0);
            due("sure", x.ring(4), 4);
            due("another", x.price(1, 3, 5), true);
            due("ring", x.ring(4), 5);
            OddShoes all = club(4);
            comes(all, 9, 9);
            for (int maker = 1; maker < 4; maker++) {
                all.trial(maker, 9, 0, 0, 0);
            }
            for (int offer = 0; offer < 32; offer++) {
                due("price of " + offer, all.price(offer / 8, offer % 8, 1000 - offer), true);
            }
            for (int offer = 31; offer >= 0; offer--) {
                all.likes(0, 255);
                due("the cheapest", all.ring(1), 1000 - offer);
                all.likes(0, 1 << offer % 8);
                due("of that style", all.ring(1), 1000 - offer);
                all.price(offer / 8, offer % 8, 0);
            }
            due("none is left", all.ring(1), -1);
        });
        says("3", "(0: there is none): true;", () -> {
            OddShoes x = three();
            due("0", x.price(0, 0, 0), true);
            due("ring", x.ring(4), -1);
            duePlan(x, 0);
            due("0 where there is none", x.price(0, 0, 0), true);
            due("0 where there never was one", x.price(0, 7, 0), true);
        });
        says("3", "false for others.", () -> {
            int[][] others = {{-1, 0, 5}, {2, 0, 5}, {0, -1, 5}, {0, 8, 5}, {0, 0, -1}, {0, 0, 1001}};
            for (int[] a : others) {
                refused(BoundaryTest::busy, "price" + text(a), 0, x -> x.price(a[0], a[1], a[2]) ? 1 : 0);
            }
            farFrom(BoundaryTest::busy, "price", 0, (x, a) -> x.price(a[0], a[1], a[2]) ? 1 : 0, 0, 0, 5);
            due("in a new club", new OddShoes().price(0, 0, 5), false);
        });
    }

    private static void promise4() {
        says("4", "A PERSON: its number.", () -> {
            OddShoes x = busy();
            due("person", x.person(true, true, 1, 0, 1), 3);
            due("person", x.person(false, true, 255, 24, 24), 4);
            due("count(2)", x.count(2), 5);
        });
        says("4", "NONE: 12 are there,", () -> {
            due("the twelfth", many(11).person(true, true, 1, 0, 1), 11);
            refused(() -> many(12), "the 13th", -1, x -> x.person(true, true, 1, 0, 1));
            refused(() -> {
                OddShoes x = many(12);
                x.gone(4);
                return x;
            }, "the 13th, as one is gone", -1, x -> x.person(true, true, 1, 0, 1));
        });
        says("4", "LIKES is not 1 .. 255,", () -> {
            for (int likes : new int[] {0, -1, 256, 257, 511}) {
                refused(BoundaryTest::busy, "likes " + likes, -1, x -> x.person(true, true, likes, 0, 1));
            }
            OddShoes x = busy();
            for (int likes : FAR) {
                due("likes " + likes, x.person(true, true, likes, 0, 1), -1);
            }
            due("1", x.person(true, true, 1, 0, 1), 3);
            due("255", x.person(true, true, 255, 0, 1), 4);
            due("likes of 4", x.personOf(4, 1), 255);
        });
        says("4", "GROWS not 0 .. 24,", () -> {
            for (int grows : new int[] {-1, 25}) {
                refused(BoundaryTest::busy, "grows " + grows, -1, x -> x.person(true, true, 1, grows, 1));
            }
            OddShoes x = busy();
            for (int grows : FAR) {
                due("grows " + grows, x.person(true, true, 1, grows, 1), -1);
            }
            due("0", x.person(true, true, 1, 0, 1), 3);
            due("24", x.person(true, true, 1, 24, 1), 4);
            due("grows of 4", x.personOf(4, 2), 24);
        });
        says("4", "LASTS not 1 .. 24,", () -> {
            for (int lasts : new int[] {-1, 0, 25}) {
                refused(BoundaryTest::busy, "lasts " + lasts, -1, x -> x.person(true, true, 1, 0, lasts));
            }
            OddShoes x = busy();
            for (int lasts : FAR) {
                due("lasts " + lasts, x.person(true, true, 1, 0, lasts), -1);
            }
            due("1", x.person(true, true, 1, 0, 1), 3);
            due("24", x.person(true, true, 1, 0, 24), 4);
            due("lasts of 4", x.personOf(4, 3), 24);
        });
        says("4", "it has no foot.", () -> {
            refused(BoundaryTest::busy, "no foot", -1, x -> x.person(false, false, 1, 0, 1));
            OddShoes x = busy();
            due("left", x.person(true, false, 1, 0, 1), 3);
            due("right", x.person(false, true, 1, 0, 1), 4);
        });
    }

    private static void nothingAtFirst() {
        OddShoes x = new OddShoes();
        due("makers", x.count(1), 0);
        due("shift of maker 0", shift(x, 0, 0), THROWS);
        due("people", x.count(2), 0);
        due("person 0", x.personOf(0, 0), -1);
        due("trials", x.count(3), 0);
        due("that stand", x.count(4), 0);
        due("trial 0", x.trialOf(0, 0), -9);
        for (int what = 5; what <= 12; what++) {
            due("count(" + what + ")", x.count(what), 0);
        }
        due("ringOf", x.ringOf(0), -1);
        due("planOf", x.planOf(0, 0), -1);
        due("plan", x.plan(), 0);
        due("ahead", x.ahead(12), 0);
        due("ring", x.ring(1), -1);
        for (int maker = 0; maker < 4; maker++) {
            x.maker();
        }
        x.person(true, true, 255, 0, 1);
        for (int trial = 0; trial < 8; trial++) {
            x.trial(trial / 2, 9, 0, trial % 2, 0);
        }
        due("no prices", x.ring(1), -1);
        duePlan(x, 0);
    }

    private static void promise5() {
        says("5", "There is a BAR between two, or none: whether that changed something", () -> {
            OddShoes x = three();
            due("there is one", x.bar(0, 1, true), true);
            due("ring", x.ring(3), -1);
            due("there is one already", x.bar(0, 1, true), false);
            due("from the other side too", x.bar(1, 0, true), false);
            due("there is none", x.bar(1, 0, false), true);
            due("ring", x.ring(3), 20);
            due("there was none", x.bar(0, 1, false), false);
            due("there never was one", x.bar(0, 2, false), false);
            refused(BoundaryTest::busy, "bar(2, 0, true), which is", 0, c -> c.bar(2, 0, true) ? 1 : 0);
            refused(BoundaryTest::busy, "bar(0, 1, false), which is not", 0, c -> c.bar(0, 1, false) ? 1 : 0);
        });
        says("5", "(false too for none such,", () -> {
            int[][] none = {{-1, 0}, {0, -1}, {3, 0}, {0, 3}, {3, 4}, {12, 0}, {0, 12}, {32, 0}, {0, 33}};
            for (int[] a : none) {
                refused(BoundaryTest::busy, "bar" + text(a), 0, x -> x.bar(a[0], a[1], true) ? 1 : 0);
                refused(BoundaryTest::busy, "no bar" + text(a), 0, x -> x.bar(a[0], a[1], false) ? 1 : 0);
            }
            farFrom(BoundaryTest::busy, "bar", 0, (x, a) -> x.bar(a[0], a[1], true) ? 1 : 0, 0, 1);
            due("in a new club", new OddShoes().bar(0, 1, true), false);
        });
        says("5", "the same).", () -> {
            for (int person = 0; person < 3; person++) {
                int same = person;
                refused(BoundaryTest::busy, "bar with itself", 0, x -> x.bar(same, same, true) ? 1 : 0);
                refused(BoundaryTest::busy, "no bar with itself", 0, x -> x.bar(same, same, false) ? 1 : 0);
            }
        });
    }

    private static void promise6() {
        says("6", "A PERSON LIKES others: true;", () -> {
            OddShoes x = three();
            due("255", x.likes(2, 255), true);
            due("told", x.personOf(2, 1), 255);
            due("1", x.likes(2, 1), true);
            due("told", x.personOf(2, 1), 1);
            due("ring", x.ring(4), 10);
            due("128", x.likes(2, 128), true);
            due("not the former ones", x.ring(4), -1);
            due("the others as before", x.personOf(1, 1), 1);
            due("the same again", x.likes(2, 128), true);
        });
        says("6", "false: none such,", () -> {
            refused(BoundaryTest::busy, "person -1", 0, x -> x.likes(-1, 2) ? 1 : 0);
            refused(BoundaryTest::busy, "person 3", 0, x -> x.likes(3, 2) ? 1 : 0);
            refused(BoundaryTest::busy, "person 12", 0, x -> x.likes(12, 2) ? 1 : 0);
            farFrom(BoundaryTest::busy, "likes", 0, (x, a) -> x.likes(a[0], 2) ? 1 : 0, 0);
        });
        says("6", "not 1 .. 255.", () -> {
            for (int likes : new int[] {-1, 0, 256, 257}) {
                refused(BoundaryTest::busy, "likes " + likes, 0, x -> x.likes(0, likes) ? 1 : 0);
            }
            farFrom(BoundaryTest::busy, "likes", 0, (x, a) -> x.likes(0, a[0]) ? 1 : 0, 1);
        });
    }

    private static void promise7() {
        says("7", "A PERSON is GONE", () -> {
            OddShoes x = busy();
            due("before", x.personOf(2, 7), 0);
            due("gone", x.gone(2), true);
            due("gone", x.personOf(2, 7), 1);
            due("others are not", x.personOf(0, 7) + x.personOf(1, 7), 0);
            due("no ring", x.ring(4), -1);
            duePlan(x, 240, 3);
            due("its number stays", x.count(2), 3);
        });
        says("7", "(not SHOD,", () -> {
            OddShoes x = busy();
            x.send();
            due("shod", x.personOf(2, 5), 3);
            x.gone(2);
            due("gone", x.personOf(2, 5), 0);
            due("how often it was", x.personOf(2, 9), 1);
            x.month(1);
            due("a month later", x.personOf(2, 5), 0);
        });
        says("7", "WAIT 0, from then on): true;", () -> {
            OddShoes x = busy();
            due("wait", x.personOf(2, 6), 2);
            due("gone", x.gone(2), true);
            due("wait", x.personOf(2, 6), 0);
            due("worth", x.personOf(2, 10), 100);
            for (int i = 0; i < 5; i++) {
                x.month(1);
                due("wait from then on", x.personOf(2, 6), 0);
            }
            due("who wait", x.count(8), 2);
            OddShoes y = busy();
            y.send();
            y.gone(2);
            y.month(4);
            due("of one who was shod", y.personOf(2, 6), 0);
            due("of one who is not gone", y.personOf(0, 6), 1);
        });
        says("7", "false: none such,", () -> {
            refused(BoundaryTest::busy, "person -1", 0, x -> x.gone(-1) ? 1 : 0);
            refused(BoundaryTest::busy, "person 3", 0, x -> x.gone(3) ? 1 : 0);
            refused(() -> many(12), "person 12", 0, x -> x.gone(12) ? 1 : 0);
            farFrom(BoundaryTest::busy, "gone", 0, (x, a) -> x.gone(a[0]) ? 1 : 0, 0);
        });
        says("7", "or it is.", () -> {
            refused(() -> {
                OddShoes x = busy();
                x.gone(0);
                x.plan();
                return x;
            }, "gone again", 0, x -> x.gone(0) ? 1 : 0);
        });
        says("7", "(Its TRIALS stand.)", () -> {
            OddShoes x = club(2);
            comes(x, 9, 9);
            x.trial(1, 8, 0, 0, 0);
            x.person(true, false, 1, 0, 1);
            x.trial(1, 10, 1, 0, 0);
            x.gone(0);
            due("that stand", x.count(4), 4);
            due("trial 0", x.trialOf(0, 6), 1);
            dueShift(x, 1, 1, 1);
            dueNeed(x, 1, 0, 0, 11, 11);
            due("10 of 0 is not possible", x.trial(0, 10, 1, 0, 0), -2);
            due("one of them is taken back", x.unsay(2), true);
            dueShift(x, 1, -3, 3);
        });
    }

    private static String text(int... numbers) {
        StringBuilder text = new StringBuilder("(");
        for (int number : numbers) {
            text.append(text.length() > 1 ? ", " : "").append(number);
        }
        return text.append(")").toString();
    }

    /** A call of the face by its numbers. */
    private interface Numbers {
        long on(OddShoes x, int[] numbers);
    }

    /** Each number of a good call by itself becomes one that is far outside. */
    private static void farFrom(Supplier<OddShoes> club, String call, long want, Numbers made, int... good) {
        for (int i = 0; i < good.length; i++) {
            OddShoes x = club.get();
            for (int far : FAR) {
                int[] numbers = good.clone();
                numbers[i] = far;
                due(call + " with number " + i + " far: " + far, made.on(x, numbers), want);
            }
        }
    }

    private static void promise8() {
        says("8", "A TRIAL: its number.", () -> {
            OddShoes x = busy();
            due("trial", x.trial(0, 5, 0, 0, 0), 7);
            due("trial", x.trial(0, 4, 0, 0, -1), 8);
            due("trial", x.trial(1, 60, 0, 1, 1), 9);
            due("count(3)", x.count(3), 10);
        });
        says("8", "NONE: no such MAKER,",
                () -> refusedTrials(new int[][] {{-1, 5, 0, 0, 0}, {2, 5, 0, 0, 0}, {4, 5, 0, 0, 0}}));
        says("8", "SIZE,", () -> refusedTrials(new int[][] {{0, 0, 0, 0, -1}, {0, -1, 0, 0, -1}, {0, 61, 0, 0, 1}}));
        says("8", "PERSON,", () -> {
            refusedTrials(new int[][] {{0, 5, -1, 0, 0}, {0, 5, 3, 0, 0}, {0, 5, 12, 0, 0}});
            refused(() -> many(12), "person 12 of 12", -1, x -> x.trial(0, 9, 12, 0, 0));
        });
        says("8", "foot,", () -> {
            refusedTrials(new int[][] {{0, 5, 0, -1, 0}, {0, 5, 0, 2, 0}, {0, 5, 0, 3, 0}});
            OddShoes x = shop();
            comes(x, 9, 0);
            comes(x, 0, 9);
            due("no right foot", x.trial(0, 9, 0, 1, 0), -1);
            due("a left foot", x.trial(0, 9, 0, 0, 0), 2);
            due("no left foot", x.trial(0, 9, 1, 0, 0), -1);
            due("a right foot", x.trial(0, 9, 1, 1, 0), 3);
        });
        says("8", "or told;", () -> refusedTrials(new int[][] {{0, 5, 0, 0, -2}, {0, 5, 0, 0, 2}, {0, 5, 0, 0, 3}}));
        says("8", "100 are there.", BoundaryTest::trialsAreFull);
        says("8", "-2: it is not possible with what stands", () -> {
            refused(BoundaryTest::busy, "6 is right", -2, x -> x.trial(0, 6, 0, 0, 0));
            refused(BoundaryTest::busy, "5 is tight", -2, x -> x.trial(0, 5, 0, 0, -1));
            refused(BoundaryTest::busy, "5 is loose", -2, x -> x.trial(0, 5, 0, 0, 1));
            refused(BoundaryTest::busy, "9 of 1 is right", -2, x -> x.trial(1, 9, 0, 0, 0));
            OddShoes x = busy();
            due("8 of 1 is right", x.trial(1, 8, 0, 0, 0), 7);
            due("9 of 1 is right on 6", x.trial(1, 9, 0, 1, 0), 8);
            due("9 of 1 is right on 7", x.trial(1, 9, 2, 0, 0), -2);
            OddShoes first = club(1);
            first.person(true, true, 1, 0, 1);
            due("the first one", first.trial(0, 60, 0, 0, -1), -2);
        });
        says("8", "(it is no TRIAL then).", () -> {
            OddShoes x = busy();
            due("not possible", x.trial(0, 6, 0, 0, 0), -2);
            due("count(3)", x.count(3), 7);
            due("count(4)", x.count(4), 6);
            due("trialOf", x.trialOf(7, 0), -9);
            due("unsay", x.unsay(7), false);
            due("the next has its number", x.trial(0, 5, 0, 0, 0), 7);
            OddShoes full = club(1);
            full.person(true, true, 1, 0, 1);
            for (int i = 0; i < 100; i++) {
                due("trial", full.trial(0, 9, 0, 0, 0), i);
                due("not possible, or 100 are there", full.trial(0, 8, 0, 0, 0), i < 99 ? -2 : -1);
            }
        });
    }

    private static void promise9() {
        says("9", "A TRIAL is taken back", () -> {
            OddShoes x = three();
            due("unsay", x.unsay(5), true);
            dueNeed(x, 2, 1, 0, 1, 30);
            dueNeed(x, 2, 0, 0, 7, 7);
            due("ring", x.ring(4), -1);
            due("another may be told", x.trial(0, 8, 2, 1, 0), 6);
            due("the first", x.unsay(0), true);
            due("the last", x.unsay(6), true);
            due("that stand", x.count(4), 4);
        });
        says("9", "(it stays as a number): true;", () -> {
            OddShoes x = three();
            due("unsay", x.unsay(5), true);
            due("trials", x.count(3), 6);
            due("that stand", x.count(4), 5);
            int[] facts = {0, 7, 2, 1, 0, 0, 0};
            for (int what = 0; what <= 6; what++) {
                due("trialOf(5, " + what + ")", x.trialOf(5, what), facts[what]);
            }
            due("the next number", x.trial(0, 7, 2, 1, 0), 6);
        });
        says("9", "false: none such,", () -> {
            refused(BoundaryTest::busy, "unsay(-1)", 0, x -> x.unsay(-1) ? 1 : 0);
            refused(BoundaryTest::busy, "unsay(7)", 0, x -> x.unsay(7) ? 1 : 0);
            refused(BoundaryTest::busy, "unsay(100)", 0, x -> x.unsay(100) ? 1 : 0);
            refused(BoundaryTest::fullOfTrials, "unsay(100) of 100", 0, x -> x.unsay(100) ? 1 : 0);
            farFrom(BoundaryTest::busy, "unsay", 0, (x, a) -> x.unsay(a[0]) ? 1 : 0, 0);
            due("in a new club", new OddShoes().unsay(0), false);
        });
        says("9", "or it was.", () -> refused(BoundaryTest::busy, "unsay(6) again", 0, x -> x.unsay(6) ? 1 : 0));
    }

    private static void refusedTrials(int[][] calls) {
        for (int[] a : calls) {
            refused(BoundaryTest::busy, "trial" + text(a), -1, x -> x.trial(a[0], a[1], a[2], a[3], a[4]));
        }
        farFrom(BoundaryTest::busy, "trial", -1, (x, a) -> x.trial(a[0], a[1], a[2], a[3], a[4]), 0, 5, 0, 0, 0);
    }

    private static OddShoes fullOfTrials() {
        OddShoes x = three();
        for (int i = 6; i < 100; i++) {
            x.trial(0, 7, 2, i % 2, 0);
        }
        x.plan();
        return x;
    }

    private static void trialsAreFull() {
        due("count(3)", fullOfTrials().count(3), 100);
        due("trial 99", fullOfTrials().trialOf(99, 3), 1);
        refused(BoundaryTest::fullOfTrials, "a 101st", -1, x -> x.trial(0, 7, 2, 0, 0));
        refused(BoundaryTest::fullOfTrials, "a 101st that is not possible", -1, x -> x.trial(0, 8, 2, 0, 0));
        refused(() -> {
            OddShoes x = fullOfTrials();
            x.unsay(99);
            x.unsay(0);
            return x;
        }, "a 101st, as two were taken back", -1, x -> x.trial(0, 7, 2, 0, 0));
    }

    private static void promise10() {
        says("10", "Of a TRIAL what 0: MAKER, 1: SIZE, 2: PERSON, 3: side, 4: told, 5: MONTH,", () -> {
            OddShoes x = busy();
            x.trial(1, 60, 2, 1, 1);
            int[] facts = {1, 60, 2, 1, 1, 2};
            x.month(3);
            int[] first = {0, 5, 0, 0, 0, 0};
            int[] taken = {1, 9, 2, 0, -1, 0};
            for (int what = 0; what < 6; what++) {
                due("trialOf(7, " + what + ")", x.trialOf(7, what), facts[what]);
                due("trialOf(0, " + what + ")", x.trialOf(0, what), first[what]);
                due("trialOf(6, " + what + ")", x.trialOf(6, what), taken[what]);
            }
        });
        says("10", "6: 1 if it stands, 0 if it was taken back.", () -> {
            OddShoes x = busy();
            due("5 stands", x.trialOf(5, 6), 1);
            due("6 was taken back", x.trialOf(6, 6), 0);
            x.unsay(5);
            due("5 was taken back", x.trialOf(5, 6), 0);
            due("4 stands", x.trialOf(4, 6), 1);
        });
        says("10", "-9 for others.", () -> {
            OddShoes x = busy();
            due("what -1", x.trialOf(0, -1), -9);
            due("what 7", x.trialOf(0, 7), -9);
            due("trial -1", x.trialOf(-1, 0), -9);
            due("trial 7", x.trialOf(7, 0), -9);
            due("trial 7, what 7", x.trialOf(7, 7), -9);
            due("in a new club", new OddShoes().trialOf(0, 6), -9);
            due("trial 100 of 100", fullOfTrials().trialOf(100, 0), -9);
            farFrom(BoundaryTest::busy, "trialOf", -9, (c, a) -> c.trialOf(a[0], a[1]), 0, 0);
        });
    }

    private static void promise11() {
        says("11", "NEED of a foot by a MAKER: what 0: the LEAST, 1: the GREATEST.", () -> {
            OddShoes x = club(4);
            x.person(true, false, 1, 1, 1);
            dueNeed(x, 0, 0, 0, 1, 30);
            dueNeed(x, 0, 0, 3, -2, 33);
            x.trial(3, 20, 0, 0, -1);
            dueNeed(x, 0, 0, 3, 21, 33);
            dueNeed(x, 0, 0, 0, 18, 30);
            dueNeed(x, 0, 0, 2, 15, 33);
            x.trial(3, 22, 0, 0, 1);
            dueNeed(x, 0, 0, 3, 21, 21);
            dueNeed(x, 0, 0, 0, 18, 24);
            dueNeed(x, 0, 0, 2, 15, 27);
            months(x, 600);
            dueNeed(x, 0, 0, 3, 621, 621);
            dueNeed(x, 0, 0, 0, 618, 624);
        });
        says("11", "NoSuchElementException: no such ones.", () -> {
            OddShoes x = busy();
            int[][] others = {{-1, 0, 0, 0}, {3, 0, 0, 0}, {12, 0, 0, 0}, {0, -1, 0, 0}, {0, 2, 0, 0}, {0, 0, -1, 0},
                {0, 0, 2, 0}, {0, 0, 4, 0}, {0, 0, 0, -1}, {0, 0, 0, 2}};
            for (int[] a : others) {
                due("need" + text(a), need(x, a[0], a[1], a[2], a[3]), THROWS);
            }
            farFrom(BoundaryTest::busy, "need", THROWS, (c, a) -> need(c, a[0], a[1], a[2], a[3]), 0, 0, 0, 0);
            due("in a new club", need(new OddShoes(), 0, 0, 0, 0), THROWS);
            OddShoes one = club(1);
            comes(one, 9, 0);
            comes(one, 0, 9);
            due("no right foot", need(one, 0, 1, 0, 0), THROWS);
            due("no left foot", need(one, 1, 0, 0, 0), THROWS);
        });
    }

    private static void promise12() {
        says("12", "SHIFT of a MAKER: the least (what 0), the greatest (1) that is POSSIBLE.", () -> {
            OddShoes x = club(3);
            dueShift(x, 0, 0, 0);
            dueShift(x, 2, -3, 3);
            comes(x, 30, 0, 1, 1);
            x.trial(2, 31, 0, 0, -1);
            dueShift(x, 2, -3, -2);
            dueShift(x, 1, -3, 3);
            months(x, 30);
            due("60 is right on 60", x.trial(1, 60, 0, 0, 0), 2);
            dueShift(x, 1, 0, 0);
            due("60 is not loose", x.trial(2, 60, 0, 0, 1), -2);
            x.unsay(1);
            dueShift(x, 2, -3, 3);
        });
        says("12", "NoSuchElementException: no such ones.", () -> {
            OddShoes x = busy();
            int[][] others = {{-1, 0}, {2, 0}, {4, 0}, {0, -1}, {0, 2}, {1, 2}, {2, 2}};
            for (int[] a : others) {
                due("shift" + text(a), shift(x, a[0], a[1]), THROWS);
            }
            farFrom(BoundaryTest::busy, "shift", THROWS, (c, a) -> shift(c, a[0], a[1]), 1, 0);
            due("in a new club", shift(new OddShoes(), 0, 0), THROWS);
            due("the fifth", shift(club(4), 4, 0), THROWS);
            due("the fourth", shift(club(4), 3, 0), -3);
        });
    }

    private static void promise13() {
        says("13", "By how much two feet's LENGTHS now differ (the first less the second): "
                + "the least (what 0), the greatest (1) that is POSSIBLE.", BoundaryTest::differences);
        says("13", "NoSuchElementException: no such ones.", () -> {
            OddShoes x = busy();
            int[][] others = {{-1, 0, 0, 0, 0}, {3, 0, 0, 0, 0}, {0, -1, 0, 0, 0}, {0, 2, 0, 0, 0}, {0, 0, -1, 0, 0},
                {0, 0, 3, 0, 0}, {0, 0, 0, -1, 0}, {0, 0, 0, 2, 0}, {0, 0, 1, 0, -1}, {0, 0, 1, 0, 2},
                {12, 0, 0, 0, 0}};
            for (int[] a : others) {
                due("differ" + text(a), differ(x, a[0], a[1], a[2], a[3], a[4]), THROWS);
            }
            farFrom(BoundaryTest::busy, "differ", THROWS,
                    (c, a) -> differ(c, a[0], a[1], a[2], a[3], a[4]), 0, 0, 1, 0, 0);
            due("in a new club", differ(new OddShoes(), 0, 0, 0, 0, 0), THROWS);
            OddShoes one = club(0);
            comes(one, 9, 0);
            comes(one, 0, 9);
            due("feet that are", differ(one, 0, 0, 1, 1, 1), 29);
            due("no right foot", differ(one, 0, 1, 1, 1, 0), THROWS);
            due("no left foot", differ(one, 0, 0, 1, 0, 0), THROWS);
            due("with itself", differ(one, 0, 1, 0, 1, 0), THROWS);
        });
    }

    private static void dueDiffer(OddShoes x, int footA, int footB, int least, int greatest) {
        for (int what = 0; what < 2; what++) {
            due("differ" + text(footA / 2, footA % 2, footB / 2, footB % 2, what),
                    differ(x, footA / 2, footA % 2, footB / 2, footB % 2, what), what == 0 ? least : greatest);
            due("the other way", differ(x, footB / 2, footB % 2, footA / 2, footA % 2, what),
                    what == 0 ? -greatest : -least);
        }
    }

    private static void differences() {
        OddShoes x = club(2);
        x.person(true, true, 1, 1, 1);
        x.person(true, true, 1, 0, 1);
        dueDiffer(x, 0, 1, -29, 29);
        dueDiffer(x, 0, 2, -29, 29);
        dueDiffer(x, 0, 0, 0, 0);
        x.trial(1, 20, 0, 0, 0);
        dueDiffer(x, 0, 2, -13, 22);
        x.trial(1, 20, 1, 0, -1);
        dueDiffer(x, 0, 2, -13, -1);
        x.trial(1, 22, 1, 0, 1);
        dueDiffer(x, 0, 2, -1, -1);
        dueNeed(x, 1, 0, 0, 18, 24);
        x.month(3);
        dueDiffer(x, 0, 2, 2, 2);
        dueDiffer(x, 0, 1, -13, 22);
        dueDiffer(x, 2, 2, 0, 0);
        OddShoes y = club(3);
        y.person(true, true, 1, 0, 1);
        y.trial(1, 20, 0, 0, 0);
        y.trial(2, 20, 0, 1, 0);
        dueDiffer(y, 0, 1, -6, 6);
        y.trial(2, 20, 0, 0, 1);
        dueDiffer(y, 0, 1, -6, -1);
    }

    private static void promise14() {
        says("14", "BASE and PER become these: true;", () -> {
            OddShoes x = busy();
            due("terms(1, 0)", x.terms(1, 0), true);
            due("plan", x.plan(), 3);
            due("terms(1000, 100)", x.terms(1000, 100), true);
            due("plan", x.plan(), 3 * 1200);
            due("the same again", x.terms(1000, 100), true);
        });
        says("14", "false for others.", () -> {
            int[][] others = {{0, 10}, {-1, 10}, {1001, 10}, {100, -1}, {100, 101}, {0, 101}};
            for (int[] a : others) {
                refused(BoundaryTest::busy, "terms" + text(a), 0, x -> x.terms(a[0], a[1]) ? 1 : 0);
            }
            farFrom(BoundaryTest::busy, "terms", 0, (x, a) -> x.terms(a[0], a[1]) ? 1 : 0, 100, 10);
        });
    }

    private static void promise15() {
        says("15", "The RING of a set of PEOPLE (as bits): its COST;", () -> {
            OddShoes x = many(12);
            due("0", x.ring(1), 10);
            due("11", x.ring(1 << 11), 10);
            due("7 to 11", x.ring(31 << 7), 50);
            dueRow(x, 7, 8, 9, 10, 11);
            due("0 and 11", x.ring(1 + (1 << 11)), 20);
            dueRow(x, 0, 11);
        });
        says("15", "NONE: there is none", () -> {
            OddShoes x = three();
            due("5 is not 6", x.ring(1), -1);
            due("nor 7", x.ring(7), -1);
            due("ring", x.ring(3), 20);
            x.gone(0);
            due("one is gone", x.ring(3), -1);
        });
        says("15", "(others,", () -> {
            OddShoes x = three();
            int[] others = {8, 8 + 3, 8 + 4, 1 << 12, 4 + (1 << 12), 1 << 30, 4 + (1 << 30), -1, -4, Integer.MIN_VALUE,
                Integer.MIN_VALUE + 4, Integer.MAX_VALUE};
            for (int set : others) {
                due("ring(4)", x.ring(4), 10);
                due("ring(" + set + ")", x.ring(set), -1);
                dueRow(x);
            }
            OddShoes full = many(12);
            due("12", full.ring(1 << 12), -1);
            due("0 and 12", full.ring(1 + (1 << 12)), -1);
            due("11", full.ring(1 << 11), 10);
            due("in a new club", new OddShoes().ring(1), -1);
        });
        says("15", "more than 5,", () -> {
            OddShoes x = many(12);
            due("5", x.ring(31), 50);
            due("6", x.ring(63), -1);
            due("other 6", x.ring(0b111000111000), -1);
            due("12", x.ring(4095), -1);
            dueRow(x);
        });
        says("15", "none).", () -> {
            OddShoes x = three();
            due("ring(0)", x.ring(0), -1);
            dueRow(x);
            due("in a new club", new OddShoes().ring(0), -1);
        });
    }

    private static void promise16() {
        says("16", "PERSON i (from 0 on) of the RING that the latest ring() told;", () -> {
            OddShoes x = loopOfFive();
            due("ring", x.ring(31), 50);
            dueRow(x, 0, 4, 3, 2, 1);
            x.plan();
            x.ahead(3);
            x.send();
            x.month(1);
            dueRow(x, 0, 4, 3, 2, 1);
            comes(x, 9, 9);
            due("another", x.ring(32), 10);
            dueRow(x, 5);
        });
        says("16", "NONE: it told none,", () -> {
            OddShoes x = three();
            dueRow(x);
            due("ring", x.ring(3), 20);
            due("none", x.ring(7), -1);
            due("ringOf(0)", x.ringOf(0), -1);
            due("ringOf(1)", x.ringOf(1), -1);
            due("ring", x.ring(3), 20);
            due("no such set", x.ring(8), -1);
            due("ringOf(0)", x.ringOf(0), -1);
            due("in a new club", new OddShoes().ringOf(0), -1);
        });
        says("16", "no such i.", () -> {
            OddShoes x = three();
            x.ring(3);
            due("ringOf(-1)", x.ringOf(-1), -1);
            due("ringOf(1)", x.ringOf(1), 1);
            due("ringOf(2)", x.ringOf(2), -1);
            x.ring(4);
            due("ringOf(1) of one", x.ringOf(1), -1);
            OddShoes full = many(5);
            full.ring(31);
            due("ringOf(4)", full.ringOf(4), 4);
            due("ringOf(5)", full.ringOf(5), -1);
            farFrom(BoundaryTest::busy, "ringOf", -1, (c, a) -> c.ringOf(a[0]), 0);
        });
    }

    private static void promise17() {
        says("17", "A PLAN, as all is now:", () -> {
            OddShoes x = three();
            duePlan(x, 300, 3, 4);
            duePlan(x, 300, 3, 4);
            x.bar(0, 1, true);
            duePlan(x, 100, 4);
            x.month(1);
            x.bar(0, 1, false);
            duePlan(x, 330, 3, 4);
            x.likes(2, 2);
            duePlan(x, 220, 3);
            x.price(0, 0, 0);
            duePlan(x, 0);
            x.price(0, 0, 1);
            x.unsay(0);
            duePlan(x, 0);
        });
        says("17", "WORTH of all in it.", () -> {
            OddShoes x = shop();
            comes(x, 1, 2);
            x.month(4);
            comes(x, 2, 1);
            x.month(1);
            comes(x, 3, 3);
            due("150 + 110 + 100", x.plan(), 360);
            due("none in it", new OddShoes().plan(), 0);
            due("none in it", club(4).plan(), 0);
            due("twelve", many(12).plan(), 1200);
        });
    }

    private static void promise18() {
        says("18", "Of RING i of the latest plan(), by their least PEOPLE, from 0 on,", () -> {
            OddShoes x = shop();
            comes(x, 1, 2);
            comes(x, 9, 9);
            comes(x, 5, 6);
            comes(x, 2, 1);
            comes(x, 6, 5);
            duePlan(x, 500, 1 + 8, 2, 4 + 16);
            x.gone(0);
            due("the latest as it was", x.planOf(0, 0), 9);
            x.send();
            due("the latest as it was", x.planOf(2, 0), 20);
            duePlan(x, 300, 2, 20);
            due("no third", x.planOf(2, 0), -1);
            OddShoes full = many(12);
            full.plan();
            for (int i = 0; i < 12; i++) {
                due("ring " + i, full.planOf(i, 0), 1 << i);
                due("its person", full.planOf(i, 10), i);
            }
            due("ring 12", full.planOf(12, 0), -1);
        });
        says("18", "what 0: its set, 1: MAKER, 2: STYLE, 3: COST,", () -> {
            OddShoes x = club(4);
            x.price(3, 7, 999);
            comes(x, 9, 9);
            comes(x, 9, 9);
            x.likes(0, 128);
            x.likes(1, 255);
            x.trial(3, 12, 0, 0, 0);
            x.plan();
            int[] facts = {1, 3, 7, 999};
            for (int what = 0; what < 4; what++) {
                due("planOf(0, " + what + ")", x.planOf(0, what), facts[what]);
            }
            due("planOf(0, 20)", x.planOf(0, 20), 12);
            x.price(1, 6, 1);
            x.trial(1, 6, 0, 0, 0);
            x.plan();
            int[] second = {2, 1, 6, 1};
            for (int what = 0; what < 4; what++) {
                due("planOf(1, " + what + ")", x.planOf(1, what), second[what]);
            }
        });
        says("18", "10 + k: its k-th PERSON,", () -> {
            OddShoes x = loopOfFive();
            x.plan();
            int[] row = {0, 4, 3, 2, 1};
            for (int k = 0; k < 5; k++) {
                due("planOf(0, " + (10 + k) + ")", x.planOf(0, 10 + k), row[k]);
            }
            due("planOf(0, 15)", x.planOf(0, 15), -1);
        });
        says("18", "20 + k: the SIZE of that one's left shoe (0: none).", () -> {
            OddShoes x = loopOfFive();
            x.plan();
            int[] sizes = {1, 2, 5, 3, 4};
            for (int k = 0; k < 5; k++) {
                due("planOf(0, " + (20 + k) + ")", x.planOf(0, 20 + k), sizes[k]);
            }
            due("planOf(0, 25)", x.planOf(0, 25), -1);
            OddShoes y = shop();
            comes(y, 0, 8);
            comes(y, 8, 0);
            y.plan();
            due("none", y.planOf(0, 20), 0);
            due("8", y.planOf(0, 21), 8);
            OddShoes child = shop();
            comes(child, 30, 30, 1, 1);
            months(child, 30);
            child.plan();
            due("60", child.planOf(0, 20), 60);
            child.month(1);
            due("as it was planned", child.planOf(0, 20), 60);
        });
        says("18", "NONE for others.", () -> {
            OddShoes x = busy();
            for (int what : new int[] {-1, 4, 5, 9, 12, 13, 14, 15, 19, 22, 23, 24, 25, 30, 100}) {
                due("planOf(0, " + what + ")", x.planOf(0, what), -1);
            }
            due("of one alone", x.planOf(1, 11), -1);
            due("of one alone", x.planOf(1, 21), -1);
            due("ring -1", x.planOf(-1, 0), -1);
            due("ring 2", x.planOf(2, 0), -1);
            farFrom(BoundaryTest::busy, "planOf", -1, (c, a) -> c.planOf(a[0], a[1]), 0, 0);
            due("no plan yet", three().planOf(0, 0), -1);
            x.price(0, 0, 0);
            x.plan();
            due("a plan without rings", x.planOf(0, 0), -1);
        });
    }

    /** A RING of 0, 4, 3, 2, 1. */
    private static OddShoes loopOfFive() {
        OddShoes x = shop();
        comes(x, 1, 2);
        comes(x, 4, 1);
        comes(x, 3, 4);
        comes(x, 5, 3);
        comes(x, 2, 5);
        return x;
    }

    private static void promise19() {
        says("19", "The latest plan() is done: all in it are SHOD for LASTS MONTHS", () -> {
            OddShoes x = shop();
            comes(x, 5, 5, 0, 1);
            comes(x, 6, 6, 0, 24);
            comes(x, 7, 8, 0, 9);
            x.plan();
            due("send", x.send(), 2);
            due("for 1 month", x.personOf(0, 5), 1);
            due("for 24 months", x.personOf(1, 5), 24);
            due("who is not in it", x.personOf(2, 5), 0);
            due("how often", x.personOf(0, 9) + x.personOf(1, 9), 2);
            due("who is not in it", x.personOf(2, 9), 0);
            due("who wait", x.count(8), 1);
            due("pairs", x.count(9), 2);
            due("cost", x.count(10), 20);
            due("count(5) is as it was", x.count(5), 2);
        });
        says("19", "(their WAIT is 0): how many.", () -> {
            OddShoes x = busy();
            due("wait", x.personOf(0, 6), 2);
            due("send", x.send(), 3);
            for (int person = 0; person < 3; person++) {
                due("wait", x.personOf(person, 6), 0);
            }
            OddShoes none = shop();
            none.plan();
            due("none", none.send(), 0);
            OddShoes full = many(12);
            full.plan();
            due("twelve", full.send(), 12);
        });
        says("19", "NONE, and nothing happens: there was none,", () -> {
            refused(BoundaryTest::three, "send() without plan()", -1, OddShoes::send);
            refused(OddShoes::new, "send() of a new club", -1, OddShoes::send);
            refused(() -> {
                OddShoes x = three();
                x.ring(3);
                x.ahead(12);
                return x;
            }, "send() after ring() and ahead()", -1, OddShoes::send);
            refused(() -> {
                OddShoes x = busy();
                x.send();
                return x;
            }, "send() again", -1, OddShoes::send);
            refused(() -> {
                OddShoes x = club(1);
                x.plan();
                x.send();
                return x;
            }, "send() again of a plan without rings", -1, OddShoes::send);
        });
        says("19", "or something was told,", () -> {
            endsThePlan("maker", OddShoes::maker);
            endsThePlan("price", x -> x.price(1, 1, 1) ? 1 : 0);
            endsThePlan("no price", x -> x.price(1, 1, 0) ? 1 : 0);
            endsThePlan("the price that it is", x -> x.price(0, 0, 10) ? 1 : 0);
            endsThePlan("person", x -> x.person(true, false, 128, 0, 1));
            endsThePlan("bar", x -> x.bar(1, 2, true) ? 1 : 0);
            endsThePlan("no bar", x -> x.bar(0, 2, false) ? 1 : 0);
            endsThePlan("likes", x -> x.likes(0, 3) ? 1 : 0);
            endsThePlan("gone", x -> x.gone(2) ? 1 : 0);
            endsThePlan("trial", x -> x.trial(0, 5, 0, 0, 0));
            endsThePlan("unsay", x -> x.unsay(0) ? 1 : 0);
            endsThePlan("terms", x -> x.terms(100, 10) ? 1 : 0);
            endsThePlan("single", x -> x.single(0, 0, 0, 1));
            OddShoes x = three();
            x.single(0, 0, 0, 7);
            x.single(0, 0, 1, 7);
            x.plan();
            due("hand", x.hand(2), 0);
            due("send", x.send(), -1);
            due("shod once", x.personOf(2, 9), 1);
            due("the others not", x.personOf(0, 9) + x.count(9), 0);
        });
        says("19", "or a MONTH went by, since", () -> {
            endsThePlan("month(1)", x -> x.month(1));
            endsThePlan("month(24)", x -> x.month(24));
            OddShoes x = busy();
            x.month(1);
            due("planned anew", x.plan(), 390);
            due("send", x.send(), 3);
        });
        says("19", "(by a call that was not refused,", BoundaryTest::refusedCallsLeaveThePlan);
        says("19", "but plan(), ring(), ahead() and those that but ask).", BoundaryTest::askingLeavesThePlan);
    }

    private static void endsThePlan(String call, Call made) {
        due("send() of a busy club", busy().send(), 3);
        due(call + " is not refused", made.on(busy()) > 0, true);
        refused(() -> {
            OddShoes x = busy();
            made.on(x);
            return x;
        }, "send() after " + call, -1, OddShoes::send);
    }

    private static void leavesThePlan(String call, Call made) {
        OddShoes x = busy();
        made.on(x);
        due("send() after " + call, x.send(), 3);
        due("shod", x.personOf(0, 5) + x.personOf(1, 5) + x.personOf(2, 5), 9);
        due("cost", x.count(10), 30);
    }

    private static void refusedCallsLeaveThePlan() {
        leavesThePlan("price", x -> x.price(2, 0, 1) ? 1 : 0);
        leavesThePlan("price", x -> x.price(0, 0, 1001) ? 1 : 0);
        leavesThePlan("person", x -> x.person(false, false, 1, 0, 1));
        leavesThePlan("person", x -> x.person(true, true, 0, 0, 1));
        leavesThePlan("a bar that is", x -> x.bar(0, 2, true) ? 1 : 0);
        leavesThePlan("a bar that is not", x -> x.bar(0, 1, false) ? 1 : 0);
        leavesThePlan("a bar with itself", x -> x.bar(0, 0, true) ? 1 : 0);
        leavesThePlan("likes", x -> x.likes(0, 0) ? 1 : 0);
        leavesThePlan("likes", x -> x.likes(3, 1) ? 1 : 0);
        leavesThePlan("gone", x -> x.gone(3) ? 1 : 0);
        leavesThePlan("trial", x -> x.trial(0, 61, 0, 0, 0));
        leavesThePlan("a trial that is not possible", x -> x.trial(0, 6, 0, 0, 0));
        leavesThePlan("unsay", x -> x.unsay(7) ? 1 : 0);
        leavesThePlan("unsay again", x -> x.unsay(6) ? 1 : 0);
        leavesThePlan("terms", x -> x.terms(0, 10) ? 1 : 0);
        leavesThePlan("month(0)", x -> x.month(0));
        leavesThePlan("month(25)", x -> x.month(25));
        leavesThePlan("single", x -> x.single(0, 0, 0, 61));
        leavesThePlan("hand", x -> x.hand(0));
        leavesThePlan("hand", x -> x.hand(3));
        OddShoes makers = club(4);
        makers.plan();
        makers.maker();
        due("send() after a fifth maker()", makers.send(), 0);
        OddShoes people = many(12);
        people.plan();
        people.person(true, true, 1, 0, 1);
        due("send() after a 13th person()", people.send(), 12);
        OddShoes trials = fullOfTrials();
        trials.trial(0, 7, 2, 0, 0);
        due("send() after a 101st trial()", trials.send(), 3);
        OddShoes last = many(1);
        months(last, 600);
        last.plan();
        last.month(1);
        due("send() after month() above 600", last.send(), 1);
        OddShoes left = three();
        left.gone(0);
        left.plan();
        left.gone(0);
        due("send() after gone() again", left.send(), 1);
        OddShoes shoes = three();
        for (int i = 0; i < 99; i++) {
            shoes.single(0, 0, 0, 1);
        }
        shoes.plan();
        shoes.single(0, 0, 0, 1);
        due("send() after a 100th single()", shoes.send(), 3);
    }

    private static void askingLeavesThePlan() {
        leavesThePlan("plan()", OddShoes::plan);
        leavesThePlan("ring(4)", x -> x.ring(4));
        leavesThePlan("ring(8)", x -> x.ring(8));
        leavesThePlan("ahead(0)", x -> x.ahead(0));
        leavesThePlan("ahead(12)", x -> x.ahead(12));
        leavesThePlan("ahead(13)", x -> x.ahead(13));
        leavesThePlan("ringOf", x -> x.ringOf(0));
        leavesThePlan("planOf", x -> x.planOf(0, 0));
        leavesThePlan("trialOf", x -> x.trialOf(0, 0));
        leavesThePlan("need", x -> need(x, 0, 0, 0, 0));
        leavesThePlan("need that throws", x -> need(x, 3, 0, 0, 0));
        leavesThePlan("shift", x -> shift(x, 1, 0));
        leavesThePlan("shift that throws", x -> shift(x, 2, 0));
        leavesThePlan("differ", x -> differ(x, 0, 0, 1, 1, 0));
        leavesThePlan("differ that throws", x -> differ(x, 0, 0, 3, 1, 0));
        leavesThePlan("stock", x -> x.stock(0, 0, 0, 9));
        leavesThePlan("personOf", x -> x.personOf(0, 0));
        leavesThePlan("count", x -> x.count(0));
    }

    private static void promise20() {
        says("20", "So many MONTHS (1 .. 24) go by: MONTH;", () -> {
            OddShoes x = three();
            due("month(1)", x.month(1), 1);
            due("month(24)", x.month(24), 25);
            due("count(0)", x.count(0), 25);
            due("wait", x.personOf(0, 6), 25);
            due("month(2)", x.month(2), 27);
        });
        says("20", "NONE for others,", () -> {
            for (int n : new int[] {0, -1, 25, 26}) {
                refused(BoundaryTest::busy, "month(" + n + ")", -1, x -> x.month(n));
            }
            farFrom(BoundaryTest::busy, "month", -1, (x, a) -> x.month(a[0]), 1);
        });
        says("20", "above 600.", () -> {
            for (int left = 0; left < 24; left++) {
                int now = 600 - left;
                Supplier<OddShoes> club = () -> {
                    OddShoes x = three();
                    months(x, now);
                    return x;
                };
                due("month(24) in " + now, club.get().month(24), -1);
                int tooMany = left + 1;
                refused(club, "month(" + tooMany + ") in " + now, -1, x -> x.month(tooMany));
                if (left > 0) {
                    due("month(" + left + ") in " + now, club.get().month(left), 600);
                }
            }
            OddShoes x = three();
            months(x, 576);
            due("month(24) in 576", x.month(24), 600);
            due("wait", x.personOf(0, 6), 600);
        });
    }

    private static void promise21() {
        says("21", "How many would be SHOD in all if, so many times (0 .. 12), "
                + "a PLAN were made and done, and a MONTH went by", () -> {
            OddShoes x = three();
            int[] shod = {0, 3, 3, 3, 6, 6, 6, 9, 9, 9, 12, 12, 12};
            for (int n = 0; n <= 12; n++) {
                due("ahead(" + n + ")", x.ahead(n), shod[n]);
            }
            OddShoes monthly = shop();
            for (int i = 0; i < 12; i++) {
                comes(monthly, 9, 9, 0, 1);
            }
            due("each in each month", monthly.ahead(12), 144);
            months(monthly, 600);
            due("in month 600", monthly.ahead(12), 144);
            OddShoes lasting = many(1);
            lasting.single(0, 0, 0, 9);
            lasting.single(0, 0, 1, 9);
            lasting.hand(0);
            due("shod for 3 months", lasting.ahead(3), 0);
            due("who waits then", lasting.ahead(4), 1);
            OddShoes child = shop();
            comes(child, 30, 30, 1, 1);
            months(child, 24);
            due("who grows out of all sizes", child.ahead(12), 7);
            OddShoes turns = shop();
            comes(turns, 1, 2, 0, 1);
            comes(turns, 2, 1, 0, 1);
            comes(turns, 2, 1, 0, 1);
            turns.price(0, 0, 0);
            due("no price", turns.ahead(12), 0);
            turns.price(0, 0, 1);
            due("two in each month", turns.ahead(12), 24);
        });
        says("21", "(nothing of that happens);", () -> {
            for (int n = 0; n <= 12; n++) {
                int times = n;
                refused(BoundaryTest::busy, "ahead(" + n + ")", 3 * ((n + 2) / 3), x -> x.ahead(times));
            }
            refused(() -> {
                OddShoes x = busy();
                x.send();
                x.month(1);
                x.gone(1);
                return x;
            }, "ahead(12) of those who are shod", 4, x -> x.ahead(12));
            OddShoes x = busy();
            due("again and again", x.ahead(12) + x.ahead(12) + x.ahead(12), 36);
        });
        says("21", "NONE for others.", () -> {
            for (int n : new int[] {-1, 13, 14}) {
                refused(BoundaryTest::busy, "ahead(" + n + ")", -1, x -> x.ahead(n));
            }
            farFrom(BoundaryTest::busy, "ahead", -1, (x, a) -> x.ahead(a[0]), 1);
        });
    }

    private static void promise22() {
        says("22", "A single shoe comes into STOCK: how many of that kind there are.", () -> {
            OddShoes x = club(4);
            due("first", x.single(0, 0, 0, 1), 1);
            due("second", x.single(0, 0, 0, 1), 2);
            due("the last kind of all", x.single(3, 7, 1, 60), 1);
            due("of another side", x.single(0, 0, 1, 1), 1);
            due("of another style", x.single(0, 1, 0, 1), 1);
            due("of another maker", x.single(1, 0, 0, 1), 1);
            due("of another size", x.single(0, 0, 0, 2), 1);
            due("third", x.single(0, 0, 0, 1), 3);
            due("in stock", x.count(11), 8);
            due("without a price too", x.stock(0, 0, 0, 1), 3);
        });
        says("22", "NONE: no such ones (SIZE 1 .. 60),", () -> {
            for (int[] a : NO_KINDS) {
                refused(BoundaryTest::busy, "single" + text(a), -1, x -> x.single(a[0], a[1], a[2], a[3]));
            }
            farFrom(BoundaryTest::busy, "single", -1, (x, a) -> x.single(a[0], a[1], a[2], a[3]), 0, 0, 0, 1);
            due("in a new club", new OddShoes().single(0, 0, 0, 1), -1);
            due("the fifth maker", club(4).single(4, 0, 0, 1), -1);
            due("size 1", busy().single(0, 0, 0, 1), 1);
            due("size 60", busy().single(0, 0, 0, 60), 1);
        });
        says("22", "99 are there.", () -> {
            Supplier<OddShoes> club = () -> {
                OddShoes x = three();
                for (int i = 0; i < 99; i++) {
                    x.single(0, 0, 0, 7);
                }
                x.plan();
                return x;
            };
            due("99", club.get().stock(0, 0, 0, 7), 99);
            refused(club, "a 100th", -1, x -> x.single(0, 0, 0, 7));
            OddShoes x = club.get();
            due("another kind", x.single(0, 0, 1, 7), 1);
            due("one is handed out", x.hand(2), 0);
            due("98", x.stock(0, 0, 0, 7), 98);
            due("so one may come", x.single(0, 0, 0, 7), 99);
            due("and no more", x.single(0, 0, 0, 7), -1);
        });
    }

    private static void promise24() {
        says("24", "How many single shoes of a kind are in STOCK;", () -> {
            OddShoes x = busy();
            due("one", x.stock(0, 0, 0, 9), 1);
            due("none", x.stock(0, 0, 0, 8), 0);
            due("one", x.stock(0, 7, 1, 60), 1);
            due("none", x.stock(1, 7, 1, 60), 0);
            due("none of size 1", x.stock(0, 0, 0, 1), 0);
            x.single(0, 0, 0, 9);
            due("two", x.stock(0, 0, 0, 9), 2);
        });
        says("24", "NONE: no such kind.", () -> {
            OddShoes x = busy();
            for (int[] a : NO_KINDS) {
                due("stock" + text(a), x.stock(a[0], a[1], a[2], a[3]), -1);
            }
            farFrom(BoundaryTest::busy, "stock", -1, (c, a) -> c.stock(a[0], a[1], a[2], a[3]), 0, 0, 0, 1);
            due("in a new club", new OddShoes().stock(0, 0, 0, 1), -1);
            due("the fifth maker", club(4).stock(4, 0, 0, 1), -1);
            due("the fourth maker", club(4).stock(3, 7, 1, 60), 0);
        });
    }

    private static void pair(OddShoes x, int maker, int style, int left, int right) {
        x.single(maker, style, 0, left);
        x.single(maker, style, 1, right);
    }

    private static void promise23() {
        says("23", "A PERSON who WAITS gets shoes of STOCK", () -> {
            OddShoes x = three();
            pair(x, 0, 0, 7, 7);
            pair(x, 0, 0, 7, 7);
            due("hand", x.hand(2), 0);
            due("one left shoe less", x.stock(0, 0, 0, 7), 1);
            due("one right shoe less", x.stock(0, 0, 1, 7), 1);
            due("in stock", x.count(11), 2);
            due("handed out", x.count(12), 2);
            Supplier<OddShoes> shod = () -> {
                OddShoes c = three();
                pair(c, 0, 0, 7, 7);
                c.plan();
                c.send();
                c.month(2);
                return c;
            };
            refused(shod, "hand() to one who is shod", -1, c -> c.hand(2));
            OddShoes later = shod.get();
            later.month(1);
            due("hand() to one who is shod no more", later.hand(2), 0);
            refused(() -> {
                OddShoes c = three();
                pair(c, 0, 0, 7, 7);
                c.gone(2);
                c.plan();
                return c;
            }, "hand() to one who is gone", -1, c -> c.hand(2));
        });
        says("23", "for each foot,", () -> {
            for (int side = 0; side < 2; side++) {
                int only = side;
                Supplier<OddShoes> club = () -> {
                    OddShoes x = three();
                    x.single(0, 0, only, 7);
                    return x;
                };
                refused(club, "one shoe for two feet", -1, x -> x.hand(2));
                OddShoes one = shop();
                comes(one, only == 0 ? 7 : 0, only == 1 ? 7 : 0);
                one.single(0, 0, 1 - only, 7);
                due("the other side", one.hand(0), -1);
                one.single(0, 0, only, 7);
                due("one foot", one.hand(0), 0);
                due("handed out", one.count(12), 1);
                due("in stock", one.count(11), 1);
                due("the other side", one.stock(0, 0, 1 - only, 7), 1);
            }
        });
        says("23", "of one MAKER and STYLE that it LIKES,", () -> {
            Supplier<OddShoes> club = () -> {
                OddShoes x = club(2);
                comes(x, 7, 8);
                x.trial(1, 7, 0, 0, 0);
                x.likes(0, 4 + 128);
                x.single(0, 2, 0, 7);
                x.single(1, 2, 1, 8);
                x.single(0, 7, 1, 8);
                pair(x, 0, 3, 7, 8);
                pair(x, 1, 1, 7, 8);
                return x;
            };
            refused(club, "hand(0)", -1, x -> x.hand(0));
            OddShoes x = club.get();
            x.single(1, 2, 0, 7);
            due("maker 1, style 2", x.hand(0), 12);
            OddShoes y = club.get();
            y.likes(0, 8);
            due("style 3", y.hand(0), 3);
        });
        says("23", "by NEEDS that are SURE,", () -> {
            for (int side = 0; side < 2; side++) {
                OddShoes x = shop();
                x.person(true, true, 1, 0, 1);
                x.trial(0, 7, 0, side, 0);
                x.trial(0, 6, 0, 1 - side, -1);
                x.trial(0, 9, 0, 1 - side, 1);
                pair(x, 0, 0, 7, 7);
                pair(x, 0, 0, 8, 8);
                due("a foot of 7 or 8", x.hand(0), -1);
                x.trial(0, 8, 0, 1 - side, 1);
                due("7", x.hand(0), 0);
            }
            OddShoes child = shop();
            comes(child, 30, 0, 1, 1);
            child.single(0, 0, 0, 60);
            months(child, 29);
            due("59", child.hand(0), -1);
            child.month(1);
            due("60", child.hand(0), 0);
            child.single(0, 0, 0, 60);
            child.month(1);
            due("61", child.hand(0), -1);
            OddShoes small = club(2);
            comes(small, 0, 3, 1, 1);
            comes(small, 9, 0);
            small.trial(1, 6, 1, 0, 0);
            small.single(1, 0, 1, 1);
            due("0 by maker 1", small.hand(0), -1);
            small.month(1);
            due("1 by maker 1", small.hand(0), 10);
        });
        says("23", "and is SHOD:", () -> {
            OddShoes x = three();
            x.month(2);
            pair(x, 0, 0, 7, 7);
            x.hand(2);
            due("for lasts months", x.personOf(2, 5), 3);
            due("wait", x.personOf(2, 6), 0);
            due("how often", x.personOf(2, 9), 1);
            due("who wait", x.count(8), 2);
            due("no pair was sent", x.count(9), 0);
            due("nor paid for", x.count(10), 0);
            duePlan(x, 240, 3);
        });
        says("23", "10 times the MAKER and the STYLE,", () -> {
            for (int kind = 0; kind < 32; kind++) {
                OddShoes x = club(4);
                comes(x, 9, 9);
                x.likes(0, 255);
                for (int maker = 1; maker < 4; maker++) {
                    x.trial(maker, 8 + maker, 0, 0, 0);
                }
                int size = kind / 8 == 0 ? 9 : 8 + kind / 8;
                pair(x, kind / 8, kind % 8, size, size);
                due("hand", x.hand(0), 10 * (kind / 8) + kind % 8);
            }
        });
        says("23", "of several the least.", () -> {
            OddShoes x = club(4);
            comes(x, 9, 9, 0, 1);
            x.likes(0, 255);
            int[] kinds = {37, 30, 16, 11, 7, 5};
            for (int maker = 1; maker < 4; maker++) {
                x.trial(maker, 9, 0, 0, 0);
            }
            for (int kind : kinds) {
                pair(x, kind / 10, kind % 10, 9, 9);
            }
            for (int i = kinds.length - 1; i >= 0; i--) {
                due("hand", x.hand(0), kinds[i]);
                x.month(1);
            }
            due("no more", x.hand(0), -1);
        });
        says("23", "NONE: none such,", () -> {
            refused(BoundaryTest::busy, "hand(-1)", -1, x -> x.hand(-1));
            refused(BoundaryTest::busy, "hand(3)", -1, x -> x.hand(3));
            refused(() -> many(12), "hand(12)", -1, x -> x.hand(12));
            farFrom(BoundaryTest::busy, "hand", -1, (x, a) -> x.hand(a[0]), 0);
            due("in a new club", new OddShoes().hand(0), -1);
        });
        says("23", "there are none.", () -> {
            refused(BoundaryTest::busy, "hand(0)", -1, x -> x.hand(0));
            refused(() -> {
                OddShoes x = three();
                pair(x, 0, 0, 6, 7);
                pair(x, 0, 0, 8, 8);
                pair(x, 0, 7, 7, 7);
                return x;
            }, "hand(2)", -1, x -> x.hand(2));
            OddShoes x = three();
            pair(x, 0, 0, 7, 7);
            due("one", x.hand(2), 0);
            x.month(3);
            due("and none", x.hand(2), -1);
            OddShoes four = club(4);
            for (int i = 0; i < 12; i++) {
                comes(four, 9, 9);
            }
            for (int i = 0; i < 12; i++) {
                due("none by four makers", four.hand(i), -1);
            }
        });
    }

    private static void promise25() {
        says("25", "Of a PERSON what 0: feet (1 left, 2 right, 3 both),", () -> {
            OddShoes x = new OddShoes();
            x.person(true, false, 1, 0, 1);
            x.person(false, true, 1, 0, 1);
            x.person(true, true, 1, 0, 1);
            for (int person = 0; person < 3; person++) {
                due("feet of " + person, x.personOf(person, 0), person + 1);
            }
        });
        says("25", "1: LIKES, 2: GROWS, 3: LASTS,", () -> {
            OddShoes x = new OddShoes();
            int[][] people = {{1, 0, 1}, {255, 24, 24}, {128, 7, 5}};
            for (int i = 0; i < 3; i++) {
                x.person(true, true, people[i][0], people[i][1], people[i][2]);
            }
            for (int i = 0; i < 9; i++) {
                due("what " + (i % 3 + 1), x.personOf(i / 3, i % 3 + 1), people[i / 3][i % 3]);
            }
            x.likes(1, 6);
            due("likes others", x.personOf(1, 1), 6);
        });
        says("25", "4: by how much LENGTHS have grown,", () -> {
            OddShoes x = new OddShoes();
            x.month(1);
            x.person(true, true, 1, 5, 1);
            x.person(true, true, 1, 0, 1);
            int[] grown = {0, 0, 0, 0, 0, 1, 1, 1, 1, 1, 2};
            for (int months = 0; months < grown.length; months++) {
                due("after " + months, x.personOf(0, 4), grown[months]);
                due("who does not grow", x.personOf(1, 4), 0);
                x.month(1);
            }
        });
        says("25", "5: for how many MONTHS it is SHOD (0),", () -> {
            OddShoes x = busy();
            due("waits", x.personOf(0, 5), 0);
            x.send();
            for (int left = 3; left >= 0; left--) {
                due("shod", x.personOf(0, 5), left);
                x.month(1);
            }
            due("waits", x.personOf(0, 5), 0);
        });
        says("25", "6: WAIT (0 if SHOD),", () -> {
            OddShoes x = busy();
            due("waits", x.personOf(0, 6), 2);
            x.send();
            int[] wait = {0, 0, 0, 0, 1, 2};
            for (int i = 0; i < wait.length; i++) {
                due("after " + i, x.personOf(0, 6), wait[i]);
                x.month(1);
            }
        });
        says("25", "7: 1 if GONE,", () -> {
            OddShoes x = busy();
            due("not gone", x.personOf(1, 7), 0);
            x.gone(1);
            due("gone", x.personOf(1, 7), 1);
            due("not gone", x.personOf(0, 7), 0);
            x.month(24);
            due("gone", x.personOf(1, 7), 1);
        });
        says("25", "8: BARS as bits,", () -> {
            OddShoes x = many(12);
            due("none", x.personOf(11, 8), 0);
            x.bar(11, 0, true);
            x.bar(4, 11, true);
            x.bar(4, 0, true);
            due("of 11", x.personOf(11, 8), 1 + 16);
            due("of 0", x.personOf(0, 8), 16 + 2048);
            due("of 4", x.personOf(4, 8), 1 + 2048);
            x.bar(0, 11, false);
            due("of 11", x.personOf(11, 8), 16);
            x.gone(4);
            due("with one who is gone", x.personOf(11, 8), 16);
        });
        says("25", "9: how often it was SHOD,", () -> {
            OddShoes x = three();
            for (int i = 0; i < 3; i++) {
                due("2", x.personOf(2, 9), i);
                x.plan();
                x.send();
                x.month(3);
            }
            pair(x, 0, 0, 7, 7);
            x.hand(2);
            due("by hand too", x.personOf(2, 9), 4);
            due("others", x.personOf(0, 9), 3);
            x.gone(2);
            due("who is gone", x.personOf(2, 9), 4);
        });
        says("25", "10: WORTH.", () -> {
            OddShoes x = busy();
            due("who waits", x.personOf(0, 10), 120);
            x.send();
            due("who is shod", x.personOf(0, 10), 100);
            x.terms(1, 100);
            due("by other terms", x.personOf(0, 10), 1);
            x.month(4);
            due("who waits", x.personOf(0, 10), 101);
            x.gone(0);
            due("who is gone", x.personOf(0, 10), 1);
        });
        says("25", "NONE for others.", () -> {
            OddShoes x = busy();
            due("what -1", x.personOf(0, -1), -1);
            due("what 11", x.personOf(0, 11), -1);
            due("person -1", x.personOf(-1, 0), -1);
            due("person 3", x.personOf(3, 0), -1);
            due("person 3, what 11", x.personOf(3, 11), -1);
            due("person 12 of 12", many(12).personOf(12, 0), -1);
            due("in a new club", new OddShoes().personOf(0, 0), -1);
            farFrom(BoundaryTest::busy, "personOf", -1, (c, a) -> c.personOf(a[0], a[1]), 0, 0);
        });
    }

    private static void dueCounts(OddShoes x, int what, int want) {
        due("count(" + what + ")", x.count(what), want);
    }

    private static void promise26() {
        says("26", "0 MONTH, 1 MAKERS, 2 PEOPLE,", () -> {
            OddShoes x = busy();
            dueCounts(x, 0, 2);
            dueCounts(x, 1, 2);
            dueCounts(x, 2, 3);
            x.gone(0);
            dueCounts(x, 2, 3);
            OddShoes full = many(12);
            months(full, 600);
            for (int i = 0; i < 4; i++) {
                full.maker();
                full.month(1);
                full.person(true, true, 1, 0, 1);
            }
            dueCounts(full, 0, 600);
            dueCounts(full, 1, 4);
            dueCounts(full, 2, 12);
        });
        says("26", "3 TRIALS, 4 those that stand,", () -> {
            OddShoes x = busy();
            dueCounts(x, 3, 7);
            dueCounts(x, 4, 6);
            x.trial(0, 6, 0, 0, 0);
            dueCounts(x, 3, 7);
            x.unsay(0);
            x.unsay(0);
            dueCounts(x, 3, 7);
            dueCounts(x, 4, 5);
            OddShoes full = fullOfTrials();
            for (int i = 0; i < 100; i++) {
                full.unsay(i);
            }
            dueCounts(full, 3, 100);
            dueCounts(full, 4, 0);
        });
        says("26", "5 RINGS of the latest plan(), 6 its COST, 7 PEOPLE in it,", () -> {
            OddShoes x = three();
            for (int what = 5; what <= 7; what++) {
                dueCounts(x, what, 0);
            }
            x.ahead(5);
            dueCounts(x, 5, 0);
            x.plan();
            x.price(0, 0, 1);
            x.gone(0);
            x.month(1);
            dueCounts(x, 5, 2);
            dueCounts(x, 6, 30);
            dueCounts(x, 7, 3);
            x.send();
            dueCounts(x, 7, 3);
            x.plan();
            x.send();
            dueCounts(x, 5, 1);
            dueCounts(x, 6, 1);
            dueCounts(x, 7, 1);
            x.plan();
            for (int what = 5; what <= 7; what++) {
                dueCounts(x, what, 0);
            }
        });
        says("26", "8 those who WAIT,", () -> {
            OddShoes x = busy();
            dueCounts(x, 8, 3);
            x.person(true, false, 1, 0, 1);
            dueCounts(x, 8, 4);
            x.plan();
            x.send();
            dueCounts(x, 8, 1);
            x.gone(3);
            dueCounts(x, 8, 0);
            x.gone(2);
            x.month(3);
            dueCounts(x, 8, 2);
            dueCounts(many(12), 8, 12);
        });
        says("26", "9 pairs that were sent in all, 10 what they cost,", () -> {
            OddShoes x = shop();
            comes(x, 9, 0);
            comes(x, 0, 9);
            comes(x, 8, 8);
            x.plan();
            dueCounts(x, 9, 0);
            dueCounts(x, 10, 0);
            x.send();
            dueCounts(x, 9, 2);
            dueCounts(x, 10, 20);
            x.month(3);
            x.price(0, 0, 1000);
            x.plan();
            x.send();
            x.send();
            dueCounts(x, 9, 4);
            dueCounts(x, 10, 2020);
            x.ahead(12);
            dueCounts(x, 9, 4);
            x.month(3);
            x.plan();
            x.gone(0);
            x.send();
            dueCounts(x, 10, 2020);
        });
        says("26", "11 single shoes in STOCK, 12 those that were handed out.", () -> {
            OddShoes x = three();
            for (int i = 0; i < 3; i++) {
                pair(x, 0, 0, 7, 7);
            }
            x.single(0, 5, 0, 1);
            x.single(0, 0, 0, 61);
            dueCounts(x, 11, 7);
            dueCounts(x, 12, 0);
            x.hand(2);
            x.hand(2);
            dueCounts(x, 11, 5);
            dueCounts(x, 12, 2);
            x.month(3);
            x.hand(2);
            comes(x, 7, 0);
            x.hand(3);
            dueCounts(x, 11, 2);
            dueCounts(x, 12, 5);
        });
        says("26", "NONE for others.", () -> {
            dueCounts(busy(), -1, -1);
            dueCounts(busy(), 13, -1);
            dueCounts(new OddShoes(), 13, -1);
            farFrom(BoundaryTest::busy, "count", -1, (x, a) -> x.count(a[0]), 0);
        });
    }

    // ---- the document's words

    /** The words of each test stand in the document, and no words of the Terms and the promises are without one. */
    private static void allWordsAreTested() throws IOException {
        saying = "the document's words";
        if (!Files.isReadable(DOCUMENT)) {
            System.out.println("no document at " + DOCUMENT + ": whether its words all are tested is not known");
            return;
        }
        String text = Files.readString(DOCUMENT);
        wordsOf("What it is", between(text, "An object is used", "## The public face"));
        wordsOf("Terms", between(text, "## Terms", "## Promise 1:").substring("## Terms".length()));
        for (int promise = 1; promise <= 26; promise++) {
            String end = promise < 26 ? "## Promise " + (promise + 1) + ":" : "## Not promised";
            String part = between(text, "## Promise " + promise + ":", end);
            wordsOf(String.valueOf(promise), part.substring(Math.max(0, part.lastIndexOf("`: ") + 3)));
        }
    }

    private static String between(String text, String from, String to) {
        int start = text.indexOf(from);
        int end = text.indexOf(to, Math.max(start, 0));
        return start < 0 || end < 0 ? "" : text.substring(start, end);
    }

    private static void wordsOf(String section, String text) {
        String words = text.replaceAll("```(text)?|==== [0-9][.]", " ").replaceAll("\\s+", " ");
        StringBuilder left = new StringBuilder(words);
        for (String quote : quoted.getOrDefault(section, List.of())) {
            int at = left.indexOf(quote);
            if (at < 0) {
                fault(section + ": these words are not there, or are told twice: " + quote);
            } else {
                left.replace(at, at + quote.length(), "|".repeat(quote.length()));
            }
        }
        String untested = left.toString().replaceAll("[| ]+", " ").trim();
        if (!untested.isEmpty()) {
            fault(section + ": words without a test: " + untested);
        }
    }
}
