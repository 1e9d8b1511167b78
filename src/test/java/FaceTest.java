import java.lang.reflect.Constructor;
import java.lang.reflect.Field;
import java.lang.reflect.Method;
import java.lang.reflect.Modifier;
import java.nio.file.Files;
import java.nio.file.Path;
import java.util.ArrayList;
import java.util.Arrays;
import java.util.List;
import java.util.Set;
import java.util.TreeSet;

/** The public face, what LANGUAGE.md says of members and classes, and how much a long run makes. */
public final class FaceTest {
    private static final String[] FACE = {
        "int maker()", "boolean price(int,int,int)", "int person(boolean,boolean,int,int,int)",
        "boolean bar(int,int,boolean)", "boolean likes(int,int)", "boolean gone(int)", "int trial(int,int,int,int,int)",
        "boolean unsay(int)", "int trialOf(int,int)", "int need(int,int,int,int)", "int shift(int,int)",
        "int differ(int,int,int,int,int)", "boolean terms(int,int)", "int ring(int)", "int ringOf(int)", "int plan()",
        "int planOf(int,int)", "int send()", "int month(int)", "int ahead(int)", "int single(int,int,int,int)",
        "int hand(int)", "int stock(int,int,int,int)", "int personOf(int,int)", "int count(int)"};
    private static final String[] NOT_IN_THE_LANGUAGE = {"Exact(", "->", "::", "synchronized", "assert ", "finally",
        "Random", "System.currentTime", "System.nanoTime", "hashCode", "catch"};
    private static int wrong = 0;

    public static void main(String[] args) throws Exception {
        members();
        classesInside();
        words();
        longestRun();
        manyObjects();
        System.out.println(wrong == 0 ? "the face is as promised" : wrong + " faults");
        if (wrong != 0) {
            System.exit(1);
        }
    }

    private static void check(boolean is, String what) {
        if (!is) {
            wrong++;
            System.out.println(what);
        }
    }

    private static void members() {
        Set<String> found = new TreeSet<>();
        Set<String> names = new TreeSet<>();
        for (Method m : OddShoes.class.getDeclaredMethods()) {
            if (!Modifier.isPrivate(m.getModifiers())) {
                check(Modifier.isPublic(m.getModifiers()), "neither public nor private: " + m);
                StringBuilder text = new StringBuilder(m.getReturnType() + " " + m.getName() + "(");
                for (Class<?> type : m.getParameterTypes()) {
                    text.append(text.charAt(text.length() - 1) == '(' ? "" : ",").append(type);
                }
                found.add(text.append(")").toString());
                names.add(m.getName());
            }
        }
        check(found.equals(new TreeSet<>(Arrays.asList(FACE))), "public methods: " + found);
        for (Class<?> c : all()) {
            for (Method m : c.getDeclaredMethods()) {
                check(c == OddShoes.class && Modifier.isPublic(m.getModifiers()) || !names.contains(m.getName()),
                        "bears the name of a public one: " + m);
                check(m.getParameterCount() <= 7, "more than seven parameters: " + m);
            }
        }
        for (Field f : OddShoes.class.getDeclaredFields()) {
            boolean isNone = f.getName().equals("NONE") && Modifier.isPublic(f.getModifiers());
            check(isNone || Modifier.isPrivate(f.getModifiers()), "a field that others see: " + f);
        }
        Constructor<?>[] made = OddShoes.class.getDeclaredConstructors();
        check(made.length == 1 && Modifier.isPublic(made[0].getModifiers()) && made[0].getParameterCount() == 0,
                "constructors: " + Arrays.toString(made));
        check(Modifier.isFinal(OddShoes.class.getModifiers()) && Modifier.isPublic(OddShoes.class.getModifiers()),
                "the class is not public and final");
    }

    private static List<Class<?>> all() {
        List<Class<?>> classes = new ArrayList<>(Arrays.asList(OddShoes.class.getDeclaredClasses()));
        classes.add(OddShoes.class);
        return classes;
    }

    private static void classesInside() {
        check(all().size() <= 12, "classes: " + all().size());
        for (Class<?> c : all()) {
            int fields = 0;
            for (Field f : c.getDeclaredFields()) {
                boolean isStatic = Modifier.isStatic(f.getModifiers());
                check(!isStatic || Modifier.isFinal(f.getModifiers()), "a static field that is not final: " + f);
                fields += isStatic ? 0 : 1;
            }
            check(fields <= 20, "fields of " + c + ": " + fields);
            check(c == OddShoes.class || Modifier.isStatic(c.getModifiers()) && !Modifier.isPublic(c.getModifiers()),
                    "not static, or public: " + c);
        }
    }

    private static void words() throws Exception {
        String source = Files.readString(Path.of("src/main/java/OddShoes.java"));
        for (String word : NOT_IN_THE_LANGUAGE) {
            check(!source.contains(word), "not in the language: " + word);
        }
        check(source.chars().allMatch(c -> c < 128), "a sign above 127");
        check(!source.contains("\npackage") && !source.startsWith("package"), "a package line");
    }

    /** The dearest run: twelve people who all can be in one RING, and a look a year ahead in each call. */
    private static void longestRun() {
        long before = allocated();
        OddShoes club = new OddShoes();
        for (int i = 0; i < 4; i++) {
            club.maker();
            for (int style = 0; style < 8; style++) {
                club.price(i, style, 5);
            }
        }
        for (int p = 0; p < 12; p++) {
            club.person(true, true, 255, 0, 1);
        }
        for (int i = 0; i < 96; i++) {
            club.trial(i / 24, 9, i % 12, i / 12 % 2, 0);
        }
        int shod = 0;
        for (int i = 0; i < 364; i++) {
            shod += club.ahead(12);
        }
        check(shod == 364 * 144, "shod ahead: " + shod);
        check(allocated() - before < 1_000_000, "a run makes " + (allocated() - before) + " bytes");
    }

    private static void manyObjects() {
        long before = allocated();
        for (int i = 0; i < 512; i++) {
            new OddShoes().count(0);
        }
        check(allocated() - before < 512 * 8_000, "512 objects take " + (allocated() - before) + " bytes");
    }

    private static long allocated() {
        com.sun.management.ThreadMXBean bean =
                (com.sun.management.ThreadMXBean) java.lang.management.ManagementFactory.getThreadMXBean();
        return bean.getThreadAllocatedBytes(Thread.currentThread().getId());
    }
}
