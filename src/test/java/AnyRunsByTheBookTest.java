import java.lang.reflect.InvocationTargetException;
import java.lang.reflect.Method;
import java.util.Arrays;
import java.util.HashMap;
import java.util.Map;
import java.util.Random;
import java.util.TreeMap;

/** Runs of up to 512 calls of the whole face, each call answered as the second telling of the whole document answers it. */
public final class AnyRunsByTheBookTest {
    private static final int RUNS = 120;
    private static final int CALLS = 512;
    private static final int[] BESIDE = {-12, -1, 1, 12};
    private static final String[] FACTS = {"acres", "gain", "age", "sons", "coin", "cattle", "kin", "board", "near", "owes"};
    private static final int[] FACT_RANGE = {8, 300, 100, 21, 600, 101, 2, 2, 12, 200};
    private static final String LAKE = "land fill fill tide storm weather weather weather sky dike dike layer layer layer mill mill sluice "
            + "turn turn coal coal work seep shut hours hours hours hours square lifts soonest row tear check keep back count ";
    private static final String PEOPLE = "found propose propose vote vote vote close fault rules why lawLevel mayBuild settler settler farm "
            + "farm worth choose sow sow come harvest who arrears coin contract measure measure yards pay levels count ";
    private static final String JOBS = "job job job job job job job job order order order order order order jobs ";
    private static final String[] MODES = {LAKE, LAKE + PEOPLE, PEOPLE + JOBS + "hours hours fill dike layer", PEOPLE + "hours hours hours "
            + "hours hours hours hours hours hours hours fill fill sow sow sow choose harvest keep back"};

    private static final Due due = new Due();
    private static final Map<String, Method> ONE = methods(SeaLand.class);
    private static final Map<String, Method> OTHER = methods(SecondLand.class);
    private static final Map<String, Integer> answered = new TreeMap<>();

    private final Random random;
    private final int run;
    private final SeaLand x = new SeaLand();
    private final SecondLand book = new SecondLand();
    private int calls;

    private AnyRunsByTheBookTest(int run) {
        this.run = run;
        this.random = new Random(run);
    }

    public static void main(String[] args) throws IllegalAccessException {
        due.is("the second telling has the whole face", OTHER.keySet().containsAll(ONE.keySet()), true);
        int first = args.length > 0 ? Integer.parseInt(args[0]) : 0;
        for (int run = first; run < first + RUNS; run++) {
            new AnyRunsByTheBookTest(run).live();
        }
        for (String name : ONE.keySet()) {
            due.is(name + " was answered", answered.containsKey(name), true);
        }
        if (args.length > 1) {
            answered.forEach((answer, times) -> System.out.println(answer + " " + times));
        }
        due.end();
    }

    private static Map<String, Method> methods(Class<?> c) {
        Map<String, Method> all = new HashMap<>();
        for (Method m : c.getDeclaredMethods()) {
            if (java.lang.reflect.Modifier.isPublic(m.getModifiers())) {
                all.put(m.getName(), m);
            }
        }
        return all;
    }

    private static Object answer(Method m, Object of, Object[] args) throws IllegalAccessException {
        try {
            return m.invoke(of, args);
        } catch (InvocationTargetException e) {
            return e.getCause().getClass().getSimpleName();
        }
    }

    private Object same(String name, Object... args) throws IllegalAccessException {
        Object got = answer(ONE.get(name), x, args);
        Object want = answer(OTHER.get(name), book, args);
        if (got == null ? want != null : !got.equals(want)) {
            due.is("run " + run + ", call " + calls + ": " + name + Arrays.toString(args) + " answered " + got + ", due is " + want, false, true);
        }
        return want;
    }

    private Object call(String name, Object... args) throws IllegalAccessException {
        calls++;
        Object want = same(name, args);
        answered.merge(name, 1, Integer::sum);
        if (want instanceof String) {
            answered.merge(name + " " + want, 1, Integer::sum);
        } else if (want != null && (want.equals(SeaLand.NONE) || want.equals(false))) {
            answered.merge(name + " " + want, 1, Integer::sum);
        }
        return want;
    }

    private void live() throws IllegalAccessException {
        String[] names = MODES[run % MODES.length].trim().split(" ");
        open();
        while (calls < CALLS - 25) {
            any(names[random.nextInt(names.length)]);
            if (random.nextInt(24) == 0) {
                look();
            }
        }
        look();
    }

    // ---- numbers ---------------------------------------------------------------------------------

    private int number(int least, int most) {
        int way = random.nextInt(100);
        if (way == 0) {
            return least - 1;
        }
        if (way == 1) {
            return most + 1;
        }
        if (way < 8) {
            return way % 2 == 0 ? least : most;
        }
        return least + random.nextInt(most - least + 1);
    }

    /** A number that is taken, near one end of its bounds more often than not. */
    private int small(int least, int most, int often) {
        return random.nextInt(4) == 0 ? number(least, most) : number(least, Math.min(most, often));
    }

    private int of(int what) {
        int many = book.count(what);
        return many == 0 || random.nextInt(60) == 0 ? number(-1, many) : random.nextInt(many);
    }

    private int square() {
        return number(0, 95);
    }

    private int beside(int square) {
        return random.nextInt(25) == 0 ? square() : square + BESIDE[random.nextInt(4)];
    }

    private int workOf(int... kinds) {
        for (int i = 0; i < 40 && book.count(2) > 0; i++) {
            int work = random.nextInt(book.count(2));
            for (int kind : kinds) {
                if (book.work(work, 0) == kind && random.nextInt(30) > 0) {
                    return work;
                }
            }
        }
        return of(2);
    }

    // ---- calls -----------------------------------------------------------------------------------

    private void open() throws IllegalAccessException {
        int height = random.nextInt(200) - 150;
        call("land", 13 + random.nextInt(3), 70 + random.nextInt(13), height, random.nextInt(3), random.nextInt(2) * random.nextInt(21));
        for (int i = random.nextInt(12); i > 0; i--) {
            int from = square();
            call("land", from, random.nextInt(3) == 0 ? square() : from, number(height - 40, height + 40), number(0, 2), small(0, 20, 4));
        }
        for (int i = random.nextInt(13); i > 0; i--) {
            call("tide", number(0, 11), number(-80, 80));
        }
        for (int i = random.nextInt(9); i > 0; i--) {
            any("dike");
            any("layer");
        }
        for (int i = random.nextInt(8); i > 0; i--) {
            any("settler");
            any("farm");
        }
        any("found");
        any("choose");
        any("sow");
        any("sow");
    }

    private void any(String name) throws IllegalAccessException {
        switch (name) {
            case "found":
            case "propose":
                text(Laws.any(random));
                call(name);
                break;
            case "dike":
                int at = square();
                for (int i = 0; i < 60; i++) {
                    at = random.nextInt(96);
                    int sea = at + BESIDE[random.nextInt(4)];
                    int inland = at + BESIDE[random.nextInt(4)];
                    if (fits(at, sea, inland)) {
                        call(name, at, sea, inland, small(1, 1000, 60));
                        return;
                    }
                }
                call(name, at, beside(at), beside(at), number(1, 1000));
                break;
            default:
                Object[] args = random.nextBoolean() ? lakeArgs(name) : null;
                args = args == null ? peopleArgs(name) : args;
                call(name, args == null ? lakeArgs(name) : args);
        }
    }

    private boolean fits(int at, int sea, int inland) {
        return sea >= 0 && sea < 96 && inland >= 0 && inland < 96 && book.square(at, 0) == 1 && book.square(at, 10) == SeaLand.NONE
                && book.square(sea, 0) == 0 && book.square(inland, 0) == 1;
    }

    private Object[] lakeArgs(String name) {
        int square = square();
        switch (name) {
            case "land":
                return new Object[] {square, square(), number(-900, 300), number(0, 2), number(0, 20)};
            case "fill":
                return new Object[] {square, small(0, 900, 60), small(0, 100000, 6000)};
            case "tide":
                return new Object[] {number(0, 11), random.nextInt(5) == 0 ? number(-400, 400) : number(-80, 80)};
            case "storm":
                int from = near();
                return new Object[] {from, from + random.nextInt(12) - 1, small(1, 500, 90)};
            case "weather":
                boolean rain = random.nextInt(3) == 0;
                return new Object[] {rain, near(), rain ? small(0, 20, 2) : number(-1, 9)};
            case "sky":
                return new Object[] {near(), number(0, 2)};
            case "layer":
                return new Object[] {workOf(0), small(1, 300, 120), number(0, 9)};
            case "mill":
                return new Object[] {square, beside(square), number(1, 60), random.nextBoolean()};
            case "sluice":
                return new Object[] {square, beside(square), number(1, 60)};
            case "turn":
                return new Object[] {workOf(3, 4), random.nextInt(3) > 0};
            case "coal":
                return new Object[] {workOf(3), small(0, 10000, 50)};
            case "work":
                return new Object[] {of(2), number(0, 7)};
            case "seep":
                return new Object[] {workOf(0, 1), number(-1000, 1000)};
            case "shut":
                return new Object[] {workOf(1)};
            case "hours":
                return new Object[] {run % 4 == 3 ? number(220, 240) : small(0, 240, 30)};
            case "square":
                return new Object[] {square, number(0, 10)};
            case "row":
                return new Object[] {of(17), square};
            case "tear":
                return new Object[] {of(17), square, random.nextInt(3) - 1};
            case "lifts":
                return new Object[] {small(0, 1000, 80), small(0, 100, 60), number(1, 24), small(0, 1000, 80)};
            case "soonest":
                return new Object[] {workOf(1), number(1, 60), random.nextInt(3) == 0 ? number(-1000, 1000) : number(-100, 100)};
            case "count":
                return new Object[] {number(0, 17)};
            case "check":
            case "keep":
            case "back":
                return new Object[] {};
            default:
                return null;
        }
    }

    private int near() {
        return random.nextInt(6) == 0 ? number(0, 40000) : book.count(0) + random.nextInt(80) - random.nextInt(20);
    }

    private Object[] peopleArgs(String name) {
        int square = square();
        switch (name) {
            case "vote":
                return new Object[] {of(7), random.nextInt(3) > 0};
            case "rules":
            case "who":
                return new Object[] {of(7), number(0, 5)};
            case "why":
                return new Object[] {of(7), number(0, 6)};
            case "lawLevel":
            case "mayBuild":
                return new Object[] {square};
            case "settler":
                return new Object[] {number(0, 99), number(0, 20), small(0, 100000, 300), number(0, 100), random.nextBoolean(),
                    random.nextBoolean(), small(0, 999999, 5)};
            case "farm":
                return new Object[] {square, random.nextInt(4) == 0 ? square() : beside(random.nextBoolean() ? beside(square) : square)};
            case "worth":
                return new Object[] {of(9)};
            case "choose":
                return new Object[] {small(0, 60, 3)};
            case "sow":
                return new Object[] {of(9), number(0, 3)};
            case "come":
                return new Object[] {of(7)};
            case "arrears":
                return new Object[] {number(0, 3)};
            case "coin":
                return new Object[] {small(0, 1000000, 5000)};
            case "contract":
                return new Object[] {workOf(0, 1), number(0, 9), small(1, 1000, 9), small(0, 200, 60)};
            case "measure":
                return new Object[] {of(12), small(0, 2000, 120)};
            case "yards":
                return new Object[] {of(12), random.nextBoolean()};
            case "pay":
                return new Object[] {of(12)};
            case "levels":
                return new Object[] {of(9), small(0, 1000, 60)};
            case "job":
                return new Object[] {small(0, 1000000, 400), small(1, 20, 6), small(0, 100000, 60), number(0, 1000)};
            case "order":
                return new Object[] {small(0, 1000000, 900), number(-1, 7)};
            case "close":
            case "fault":
            case "harvest":
            case "jobs":
                return new Object[] {};
            default:
                return null;
        }
    }

    private void text(String text) throws IllegalAccessException {
        if (random.nextInt(10) > 0) {
            call("end", 0);
        }
        for (int begin = 0; begin < text.length(); begin += 20) {
            Object[] five = new Object[5];
            for (int i = 0; i < 5; i++) {
                int word = 0;
                for (int j = begin + 4 * i; j < begin + 4 * i + 4; j++) {
                    word = word << 8 | (j < text.length() ? text.charAt(j) : ' ');
                }
                five[i] = word;
            }
            call("feed", five);
        }
        if (random.nextInt(8) == 0) {
            call("end", number(0, text.length() + 2));
        }
    }

    // ---- all that can be asked -------------------------------------------------------------------

    private void look() throws IllegalAccessException {
        for (int what = -1; what <= 18; what++) {
            same("count", what);
        }
        for (int s = 0; s < 96; s++) {
            for (int what = 0; what <= 10; what++) {
                same("square", s, what);
            }
            same("lawLevel", s);
            same("mayBuild", s);
            same("row", random.nextInt(24), s);
        }
        for (int w = 0; w < book.count(2); w++) {
            for (int what = 0; what <= 7; what++) {
                same("work", w, what);
            }
        }
        for (int s = 0; s < book.count(7); s++) {
            for (int what = 0; what <= 6; what++) {
                same("who", s, what);
                same("rules", s, what);
                same("why", s, what);
            }
            same("arrears", s);
        }
        for (int i = 0; i < 20; i++) {
            same("sky", Math.max(0, near()), i % 3);
        }
        same("check");
        same("fault");
    }

    /** Texts of laws, most of them right. */
    private static final class Laws {
        private static final String[] FIRST = {"votes 1", "votes 2;fine 7;call", "votes 3;dues 500;gain 30", "call if acres < 4;fine 400;dues 90"};
        private static final String[] KINDS = {"dues", "gain", "votes", "votes", "fine", "mark", "mark", "call", "out", "level", "pass", "bar"};

        static String any(Random random) {
            StringBuilder text = new StringBuilder(FIRST[random.nextInt(FIRST.length)]);
            int lines = random.nextInt(40) == 0 ? 17 + random.nextInt(4) : random.nextInt(6);
            for (int i = 0; i < lines; i++) {
                String line = line(random, lines > 6);
                if (text.length() + line.length() < 398) {
                    text.append(random.nextBoolean() ? ";" : " ; ").append(line);
                }
            }
            if (random.nextInt(6) == 0) {
                int at = random.nextInt(text.length());
                text.setCharAt(at, "a; <>(0z9".charAt(random.nextInt(9)));
            }
            return random.nextInt(50) == 0 ? "  ".substring(random.nextInt(3)) : text.toString();
        }

        private static String line(Random random, boolean plain) {
            String kind = KINDS[random.nextInt(KINDS.length)];
            switch (kind) {
                case "level":
                    return "level " + random.nextInt(901) + " " + random.nextInt(901) + " in " + random.nextInt(96) + " " + random.nextInt(96);
                case "pass":
                    return "pass " + random.nextInt(101);
                case "bar":
                    return "bar " + random.nextInt(6);
                case "call":
                    break;
                case "out":
                    return "out if " + condition(random, 0) + " and age > 60";
                default:
                    kind += " " + random.nextInt(random.nextInt(9) == 0 ? 100000 : 60);
            }
            return plain || random.nextInt(3) == 0 ? kind : kind + " if " + condition(random, 0);
        }

        private static String condition(Random random, int deep) {
            int way = random.nextInt(10);
            if (deep < 4 && way == 0) {
                return "not " + condition(random, deep + 1);
            }
            if (deep < 4 && way == 1) {
                return "(" + condition(random, deep + 1) + ")";
            }
            if (deep < 4 && way < 5) {
                return condition(random, deep + 1) + (way == 2 ? " or " : " and ") + condition(random, deep + 1);
            }
            int fact = random.nextInt(FACTS.length);
            String left = FACTS[fact] + (random.nextInt(4) == 0 ? "+" + FACTS[random.nextInt(FACTS.length)] : "");
            return left + (random.nextBoolean() ? "<" : " > ") + random.nextInt(FACT_RANGE[fact] + 1);
        }
    }
}
