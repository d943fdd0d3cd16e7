import java.lang.reflect.InvocationTargetException;
import java.lang.reflect.Method;
import java.util.ArrayList;
import java.util.Arrays;
import java.util.Comparator;
import java.util.List;
import java.util.Random;

/**
 * Any calls with any arguments: no other exception than those told of a call, none that changes anything,
 * the same answers of the same calls, the water's balance, and rows that prove themselves.
 */
public final class AnyCallsTest {
    private static final int RUNS = 60;
    private static final int CALLS = 512;
    private static final int[] EDGES = {Integer.MIN_VALUE, Integer.MAX_VALUE, -2, -1, 0, 1, 2, 3, 12, 13, 95, 96, 240, 900};
    private static final String[] TEXTS = {
        "votes 1;votes 2 if sons > 3;dues 20;gain 10;call if acres > 1;fine 5;mark 7 if kin>0;mark 1",
        "level 30 40 in 0 50;pass 40;bar 2;out if age > 90;dues 99999 if not (age<30 or near<3);votes 3",
        "pass 10;votes 1;gain 300 if owes>0 and (coin + cattle < 500 or board > 0)", "", "dues", "out if (((((((1<2"};
    private static final Due due = new Due();

    public static void main(String[] args) throws IllegalAccessException {
        List<Method> face = new ArrayList<>();
        for (Method m : SeaLand.class.getDeclaredMethods()) {
            if (java.lang.reflect.Modifier.isPublic(m.getModifiers())) {
                face.add(m);
            }
        }
        face.sort(Comparator.comparing(Method::getName));
        due.is("methods", face.size(), 54);
        for (int run = 0; run < RUNS; run++) {
            long one = anyCalls(face, run, true);
            long other = anyCalls(face, run, false);
            due.is("the same answers in run " + run, one, other);
        }
        due.end();
    }

    private static long anyCalls(List<Method> face, int run, boolean watched) throws IllegalAccessException {
        Random random = new Random(run);
        SeaLand x = run % 4 == 0 ? new SeaLand() : settled(random);
        boolean torn = false;
        long answers = 0;
        for (int i = 0; i < CALLS; i++) {
            Method m = face.get(random.nextInt(face.size()));
            if (random.nextInt(4) == 0) {
                m = named(face, "hours");
            }
            Object[] args = new Object[m.getParameterCount()];
            for (int p = 0; p < args.length; p++) {
                args[p] = m.getParameterTypes()[p] == int.class ? any(random) : (Object) random.nextBoolean();
            }
            if (m.getName().equals("found") || m.getName().equals("propose")) {
                Due.tape(x, TEXTS[random.nextInt(TEXTS.length)]);
            }
            long before = watched ? digest(x) : 0;
            try {
                Object answer = m.invoke(x, args);
                answers = answers * 31 + (answer == null ? 0 : answer.hashCode());
                torn |= m.getName().equals("tear");
            } catch (InvocationTargetException e) {
                answers = answers * 31 + e.getCause().getClass().getName().hashCode();
                due.is(m.getName() + Arrays.toString(args) + " threw " + e.getCause(),
                        Arrays.asList(m.getExceptionTypes()).contains(e.getCause().getClass()), true);
                if (watched) {
                    due.is(m.getName() + Arrays.toString(args) + " threw and changed something", digest(x), before);
                }
            }
            due.is("balance", x.count(4), x.count(13) + x.count(14) - x.count(15) + x.count(16));
            due.is("check", torn || x.check() == SeaLand.NONE, true);
        }
        return answers * 31 + digest(x);
    }

    private static Method named(List<Method> face, String name) {
        for (Method m : face) {
            if (m.getName().equals(name)) {
                return m;
            }
        }
        throw new IllegalStateException(name);
    }

    private static int any(Random random) {
        switch (random.nextInt(4)) {
            case 0:
                return EDGES[random.nextInt(EDGES.length)];
            case 1:
                return random.nextInt(100);
            case 2:
                return random.nextInt(1000) - 300;
            default:
                return random.nextInt(8);
        }
    }

    private static SeaLand settled(Random random) {
        SeaLand x = new SeaLand();
        x.land(13, 82, -60, 1, 0);
        for (int s = 25; s < 71; s++) {
            if (s % 12 > 1 && s % 12 < 10) {
                x.land(s, s, -60 - random.nextInt(60), random.nextInt(3), random.nextInt(21));
            }
        }
        for (int i = 0; i < 12; i++) {
            x.tide(i, random.nextInt(120) - 60);
        }
        for (int i = 0; i < 8; i++) {
            int dike = x.dike(13 + i, 1 + i, 25 + i, 1 + random.nextInt(30));
            x.layer(dike, 60 + random.nextInt(100), random.nextInt(10));
            x.mill(37 + i, 49 + i, 1 + random.nextInt(60), i % 2 == 0);
        }
        x.sluice(73, 85, 30);
        x.turn(x.count(2) - 1, true);
        for (int i = 0; i < 6; i++) {
            x.weather(false, random.nextInt(600), random.nextInt(11) - 1);
            x.weather(true, random.nextInt(600), random.nextInt(3));
            x.settler(20 + i, i, 100 * i, i, i % 2 == 0, false, random.nextInt(10));
            x.farm(49 + 2 * (i / 2), 50 + 2 * (i / 2));
        }
        Due.found(x, TEXTS[0]);
        if (random.nextBoolean()) {
            x.choose(2);
        }
        return x;
    }

    /** All that can be asked for without changing anything. */
    private static long digest(SeaLand x) {
        long all = 0;
        for (int what = 0; what <= 17; what++) {
            all = all * 31 + x.count(what);
        }
        for (int s = 0; s < 96; s++) {
            for (int what = 0; what <= 10; what++) {
                all = all * 31 + x.square(s, what);
            }
            all = all * 31 + x.lawLevel(s);
        }
        for (int w = 0; w < x.count(2); w++) {
            for (int what = 0; what <= 7; what++) {
                all = all * 31 + x.work(w, what);
            }
        }
        for (int s = 0; s < x.count(7); s++) {
            for (int what = 0; what <= 5; what++) {
                all = all * 31 + x.who(s, what) * 7L + x.rules(s, what) * 3L + x.why(s, what);
            }
        }
        for (int c = 0; c < x.count(12); c++) {
            all = all * 31 + x.yards(c, true) * 5L + x.yards(c, false);
        }
        for (int hour = 0; hour < 700; hour += 7) {
            all = all * 31 + x.sky(hour, 0) * 5L + x.sky(hour, 1) * 3L + x.sky(hour, 2);
        }
        return all * 31 + x.check();
    }
}
