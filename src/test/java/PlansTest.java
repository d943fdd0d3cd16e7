import java.util.Random;

/** Promises 44 to 49: each plan by hand, and against all the ways there are. */
public final class PlansTest {
    private static final Due due = new Due();

    public static void main(String[] args) {
        lifts();
        liftsOfAllWays();
        soonest();
        soonestOfAllBegins();
        levels();
        levelsOfAllWays();
        jobs();
        order();
        orderOfAllWays();
        due.end();
    }

    private static void lifts() {
        SeaLand x = new SeaLand();
        x.land(0, 23, 0, 0, 0);
        due.is("nothing needed", x.lifts(1000, 0, 24, 1000), 0);
        due.none("no engine", x.lifts(1000, 1, 1, 1000));
        due.is("at the limit", x.lifts(990, 10, 1, 1000), 0);
        due.is("only the ends of hours count", x.lifts(0, 100, 1, 100), 0);
        x.mill(0, 12, 10, true);
        x.mill(1, 13, 7, true);
        due.is("the stronger one", x.lifts(10, 0, 1, 0), 1);
        due.is("both", x.lifts(11, 0, 1, 0), 2);
        due.none("not in one hour", x.lifts(18, 0, 1, 0));
        due.none("the limit holds at each end", x.lifts(18, 0, 2, 0));
        due.is("twice", x.lifts(18, 1, 2, 9), 2);
        x.mill(2, 14, 15, false);
        due.is("no wind", x.lifts(10, 0, 1, 0), 1);
        x.weather(false, 2, 9);
        due.is("no wind yet", x.lifts(10, 0, 1, 0), 1);
        due.is("mills of each hour", x.lifts(13, 0, 2, 13), 0);
        due.is("never below 0", x.lifts(0, 13, 2, 13), 0);
        x.hours(1);
        due.is("wind of the next hour", x.lifts(13, 0, 1, 0), 0);
        due.is("wind and an engine", x.lifts(14, 0, 1, 0), 1);
        due.is("nothing changes", x.work(0, 6) + x.work(0, 7), 0);
        for (int i = 3; i < 7; i++) {
            x.mill(i, i + 12, 60, true);
        }
        due.is("the first five alone", x.lifts(13 + 180 + 17, 0, 1, 0), 5);
        due.none("the first five alone", x.lifts(13 + 180 + 18, 0, 1, 0));
        due.is("the sixth counts for nothing", x.lifts(13 + 61, 0, 1, 0), 2);
        SeaLand y = new SeaLand();
        y.land(0, 23, 0, 0, 0);
        for (int i = 0; i < 5; i++) {
            y.mill(i, i + 12, 20, true);
        }
        due.is("all of them, always", y.lifts(0, 100, 24, 0), 120);
        due.is("but the last one", y.lifts(0, 100, 24, 20), 119);
        due.wrongNumber("has", () -> x.lifts(-1, 0, 1, 0));
        due.wrongNumber("has", () -> x.lifts(1001, 0, 1, 0));
        due.wrongNumber("comes", () -> x.lifts(0, 101, 1, 0));
        due.wrongNumber("comes", () -> x.lifts(0, -1, 1, 0));
        due.wrongNumber("n", () -> x.lifts(0, 0, 0, 0));
        due.wrongNumber("n", () -> x.lifts(0, 0, 25, 0));
        due.wrongNumber("limit", () -> x.lifts(0, 0, 1, -1));
        due.wrongNumber("limit", () -> x.lifts(0, 0, 1, 1001));
    }

    private static void liftsOfAllWays() {
        Random random = new Random(1);
        for (int run = 0; run < 400; run++) {
            SeaLand x = new SeaLand();
            x.land(0, 23, 0, 0, 0);
            int engines = random.nextInt(4);
            int[] powers = new int[engines];
            for (int i = 0; i < engines; i++) {
                powers[i] = 1 + random.nextInt(12);
                x.mill(i, i + 12, powers[i], true);
            }
            int mill = 1 + random.nextInt(9);
            x.mill(11, 23, mill, false);
            int n = 1 + random.nextInt(5);
            int[] lifted = new int[n];
            for (int i = 0; i < n; i++) {
                int wind = random.nextInt(10);
                x.weather(false, i + 1, wind);
                lifted[i] = mill * wind / 10;
            }
            int has = random.nextInt(30);
            int comes = random.nextInt(20);
            int limit = random.nextInt(30);
            int want = allWays(powers, lifted, 0, has, comes, limit);
            due.is("lifts " + run, x.lifts(has, comes, n, limit), want);
        }
    }

    private static int allWays(int[] powers, int[] lifted, int hour, int has, int comes, int limit) {
        if (hour == lifted.length) {
            return 0;
        }
        int best = -1;
        for (int way = 0; way < 1 << powers.length; way++) {
            int water = Math.max(0, has + comes - lifted[hour]);
            for (int i = 0; i < powers.length; i++) {
                water = Math.max(0, water - ((way >> i & 1) == 1 ? powers[i] : 0));
            }
            int rest = water > limit ? -1 : allWays(powers, lifted, hour + 1, water, comes, limit);
            if (rest >= 0 && (best < 0 || rest + Integer.bitCount(way) < best)) {
                best = rest + Integer.bitCount(way);
            }
        }
        return best;
    }

    private static SeaLand withBreach(int hours) {
        SeaLand x = new SeaLand();
        x.land(13, 14, -10, 0, 0);
        x.dike(13, 12, 14, 5);
        x.hours(hours);
        return x;
    }

    private static void soonest() {
        SeaLand x = withBreach(1);
        due.is("width 4", x.soonest(0, 4, 0), 5);
        due.is("by twos", x.soonest(0, 11, 0), 3);
        due.is("at once", x.soonest(0, 60, 1000), 2);
        due.none("by threes of hands nothing", x.soonest(0, 3, 0));
        due.none("never low", x.soonest(0, 60, -1));
        x.tide(3, 10);
        x.tide(4, 10);
        due.is("hours that are high", x.soonest(0, 8, 9), 7);
        due.is("hours at the bound", x.soonest(0, 8, 10), 3);
        due.is("width stays", x.work(0, 5), 4);
        SeaLand y = withBreach(40);
        due.is("width", y.work(0, 5), 60);
        due.is("the last hour", y.soonest(0, 4, 0), 100);
        y.storm(41, 180, 10);
        due.is("200 hours on", y.soonest(0, 4, 0), 240);
        y.storm(181, 181, 10);
        due.none("201 hours on", y.soonest(0, 4, 0));
        for (int i = 0; i < 12; i++) {
            y.tide(i, 10);
        }
        for (int i = 4; i < 12; i++) {
            y.tide(i, 0);
        }
        // From hour 41 on: 7 hours 1 less each, then in each 12 hours 8 more at most and 8 less.
        due.none("it stays open", y.soonest(0, 4, 0));
        due.wrongNumber("hands", () -> x.soonest(0, 0, 0));
        due.wrongNumber("hands", () -> x.soonest(0, 61, 0));
        due.wrongNumber("low", () -> x.soonest(0, 1, 1001));
        due.wrongNumber("low", () -> x.soonest(0, 1, -1001));
        x.shut(0);
        due.wrongKind("a dike", () -> x.soonest(0, 1, 0));
        due.wrongNumber("a dike, and wrong", () -> x.soonest(0, 0, 0));
    }

    private static void soonestOfAllBegins() {
        Random random = new Random(2);
        for (int run = 0; run < 200; run++) {
            SeaLand x = withBreach(1 + random.nextInt(40));
            for (int i = 0; i < 12; i++) {
                x.tide(i, random.nextInt(5));
            }
            x.storm(50, 50 + random.nextInt(200), 1);
            int hands = 1 + random.nextInt(60);
            int low = random.nextInt(7) - 1;
            int now = x.count(0);
            int want = -1;
            for (int begin = now + 1; begin <= now + 48; begin++) {
                int width = x.work(0, 5);
                for (int hour = now + 1; hour <= now + 200 && width > 0; hour++) {
                    boolean less = hour >= begin && x.sky(hour, 0) <= low;
                    width = less ? width - hands / 4 : Math.min(60, width + 2);
                    if (width <= 0 && (want < 0 || hour < want)) {
                        want = hour;
                    }
                }
            }
            due.is("soonest " + run, x.soonest(0, hands, low), want);
        }
    }

    private static void levels() {
        SeaLand x = new SeaLand();
        x.land(0, 7, 0, 0, 0);
        x.land(1, 1, 41, 0, 0);
        x.farm(0, 0);
        x.farm(1, 1);
        x.farm(2, 3);
        due.is("no crop", x.levels(0, 0), 0);
        int[] best = {0, 16, 50, 34};
        for (int crop = 1; crop <= 3; crop++) {
            x.sow(0, crop);
            x.sow(2, crop);
            due.is("one", x.levels(0, 0), best[crop]);
            due.is("two alike", x.levels(2, 0), 2 * best[crop]);
        }
        due.wrongIndex("none", () -> x.levels(3, -1));
        due.wrongIndex("none", () -> x.levels(-1, 0));
        due.wrongNumber("step", () -> x.levels(0, -1));
        due.wrongNumber("step", () -> x.levels(0, 1001));
        SeaLand y = new SeaLand();
        y.land(0, 0, 0, 0, 0);
        y.land(1, 1, 150, 0, 0);
        y.farm(0, 1);
        due.none("no way", y.levels(0, 29));
        due.is("a way", y.levels(0, 30), 0);
        y.sow(0, 2);
        // The left one 40 below its height, the right one 160: 10 and 30.
        due.is("the only way", y.levels(0, 30), 40);
        due.is("a wider step", y.levels(0, 70), 60);
        due.is("any", y.levels(0, 1000), 100);
    }

    private static void levelsOfAllWays() {
        Random random = new Random(3);
        int[][] shapes = {{0, 0}, {0, 1}, {0, 12}, {0, 2}, {0, 13}, {0, 14}, {0, 25}, {0, 26}, {0, 7}, {0, 37}};
        for (int run = 0; run < 300; run++) {
            SeaLand x = new SeaLand();
            int[] shape = shapes[run % shapes.length];
            int[] height = new int[96];
            for (int s = 0; s < 96; s++) {
                height[s] = random.nextInt(140);
                x.land(s, s, height[s], 0, 0);
            }
            x.farm(shape[0], shape[1]);
            int crop = random.nextInt(4);
            x.sow(0, crop);
            int[] squares = new int[6];
            int n = 0;
            for (int s = 0; s < 96 && n < 6; s++) {
                if (x.square(s, 9) == 0) {
                    squares[n++] = s;
                }
            }
            int step = random.nextInt(120);
            due.is("levels " + run, x.levels(0, step), bestOfAll(squares, n, height, crop, step));
        }
    }

    private static int bestOfAll(int[] squares, int n, int[] height, int crop, int step) {
        int best = -1;
        for (int way = 0; way < 1 << 2 * n; way++) {
            int sum = 0;
            boolean holds = true;
            for (int i = 0; i < n; i++) {
                int depth = 40 * (1 + (way >> 2 * i & 3));
                sum += worth(crop, depth);
                for (int j = 0; j < i; j++) {
                    int other = 40 * (1 + (way >> 2 * j & 3));
                    int gap = squares[i] - squares[j];
                    boolean beside = gap == 12 || gap == 1 && squares[i] % 12 != 0;
                    int unlike = height[squares[i]] - depth - height[squares[j]] + other;
                    holds &= !beside || Math.abs(unlike) <= step;
                }
            }
            best = holds ? Math.max(best, sum) : best;
        }
        return best;
    }

    private static int worth(int crop, int depth) {
        int[][] worths = {{0, 0, 0, 0}, {16, 16, 8, 0}, {10, 30, 50, 30}, {20, 34, 34, 20}};
        return worths[crop][depth / 40 - 1];
    }

    private static void jobs() {
        SeaLand x = new SeaLand();
        due.is("none", x.jobs(), 0);
        due.wrongNumber("cost", () -> x.job(1000001, 1, 0, 0));
        due.wrongNumber("cost", () -> x.job(-1, 1, 0, 0));
        due.wrongNumber("years", () -> x.job(0, 0, 0, 0));
        due.wrongNumber("years", () -> x.job(0, 21, 0, 0));
        due.wrongNumber("brings", () -> x.job(0, 1, 100001, 0));
        due.wrongNumber("brings", () -> x.job(0, 1, -1, 0));
        due.wrongNumber("acres", () -> x.job(0, 1, 0, 1001));
        due.wrongNumber("acres", () -> x.job(0, 1, 0, -1));
        for (int i = 1; i <= 7; i++) {
            due.is("job", x.job(1000000, 20, 100000, 1000), i);
        }
        due.none("an 8th", x.job(0, 1, 0, 0));
        due.wrongNumber("a wrong 8th", () -> x.job(0, 0, 0, 0));
        due.is("7", x.jobs(), 7);
        due.is("none", x.jobs(), 0);
        due.is("again", x.job(0, 1, 0, 0), 1);
    }

    private static void order() {
        SeaLand x = new SeaLand();
        due.is("no jobs", x.order(0, SeaLand.NONE), 0);
        due.none("no place", x.order(0, 0));
        x.job(10, 3, 0, 5);
        due.is("at once", x.order(10, SeaLand.NONE), 15);
        due.is("the only one", x.order(10, 0), 0);
        due.none("no place", x.order(10, 1));
        due.none("no place", x.order(10, -2));
        due.none("no coin", x.order(9, SeaLand.NONE));
        due.none("no coin", x.order(9, 0));
        x.job(0, 1, 4, 1);
        // Job 1 is done in year 1, then 4 each year: 8 in year 3 and 12 in year 4; job 0 is done in year 7.
        due.is("one waits", x.order(0, SeaLand.NONE), 1 + 35);
        due.is("first", x.order(0, 0), 1);
        due.is("second", x.order(0, 1), 0);
        due.is("fewer years", x.order(2, SeaLand.NONE), 1 + 30);
        due.is("from 10 on", x.order(10, SeaLand.NONE), 15 + 4);
        due.is("from 10 on", x.order(10, 0), 0);
        due.wrongNumber("coin", () -> x.order(-1, 0));
        due.wrongNumber("coin", () -> x.order(1000001, 0));
        x.jobs();
        x.job(0, 2, 0, 3);
        x.job(0, 2, 0, 3);
        due.is("of several the first", x.order(0, 0), 0);
        x.jobs();
        x.job(0, 1, 1, 0);
        x.job(198, 1, 0, 1);
        due.is("year 200", x.order(0, SeaLand.NONE), 200);
        x.jobs();
        x.job(0, 1, 1, 0);
        x.job(199, 1, 0, 1);
        due.none("behind year 200", x.order(0, SeaLand.NONE));
        due.none("behind year 200", x.order(0, 0));
        x.jobs();
        x.job(0, 1, 5, 0);
        x.job(0, 2, 0, 0);
        x.job(10, 1, 0, 1);
        // Whatever the order of the first two, what is done brings while others last.
        due.is("brings meanwhile", x.order(0, SeaLand.NONE), 4);
    }

    private static void orderOfAllWays() {
        Random random = new Random(4);
        for (int run = 0; run < 150; run++) {
            SeaLand x = new SeaLand();
            int n = 1 + random.nextInt(run % 30 == 0 ? 7 : 5);
            int[][] jobs = new int[n][];
            for (int i = 0; i < n; i++) {
                jobs[i] = new int[] {random.nextInt(60), 1 + random.nextInt(run % 3 == 0 ? 20 : 4),
                    random.nextInt(6), random.nextInt(4)};
                x.job(jobs[i][0], jobs[i][1], jobs[i][2], jobs[i][3]);
            }
            int coin = random.nextInt(40);
            int[] best = new int[n];
            int want = bestOrder(jobs, coin, best);
            due.is("order " + run, x.order(coin, SeaLand.NONE), want);
            for (int i = 0; i < n; i++) {
                due.is("order " + run + " place " + i, x.order(coin, i), want < 0 ? -1 : best[i]);
            }
        }
    }

    private static int bestOrder(int[][] jobs, int coin, int[] best) {
        int n = jobs.length;
        int least = -1;
        int all = 1;
        for (int i = 0; i < n; i++) {
            all *= n;
        }
        for (int code = 0; code < all; code++) {
            int[] order = new int[n];
            int rest = code;
            int seen = 0;
            for (int i = n - 1; i >= 0; i--) {
                order[i] = rest % n;
                seen |= 1 << order[i];
                rest /= n;
            }
            int late = seen == (1 << n) - 1 ? lateness(jobs, order, coin) : -1;
            if (late >= 0 && (least < 0 || late < least)) {
                least = late;
                System.arraycopy(order, 0, best, 0, n);
            }
        }
        return least;
    }

    private static int lateness(int[][] jobs, int[] order, int coin) {
        int year = 0;
        int has = coin;
        int brings = 0;
        int late = 0;
        for (int job : order) {
            while (has < jobs[job][0] && year <= 200) {
                year++;
                has += brings;
            }
            has -= jobs[job][0];
            for (int i = 0; i < jobs[job][1]; i++) {
                year++;
                has += brings;
            }
            if (year > 200) {
                return -1;
            }
            brings += jobs[job][2];
            late += jobs[job][3] * year;
        }
        return late;
    }
}
