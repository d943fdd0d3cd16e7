/** The edges that the document names of the plans: promises 44 to 49 and their terms. */
public final class EdgesOfPlansTest {
    private static final int NONE = SeaLand.NONE;
    private static final Due due = new Due();

    public static void main(String[] args) {
        liftsNumbers();
        liftsLimit();
        liftsEngines();
        liftsMills();
        soonestNumbers();
        soonestHands();
        soonestBegins();
        soonestBound();
        levelsNumbers();
        levelsWorth();
        levelsStep();
        levelsSquares();
        jobs();
        orderAsked();
        orderWaits();
        orderYears();
        orderLeast();
        nothingChanges();
        due.end();
    }

    private static SeaLand withEngines(int... powers) {
        SeaLand x = new SeaLand();
        x.land(0, 23, 0, 0, 0);
        for (int i = 0; i < powers.length; i++) {
            x.mill(i, i + 12, powers[i], true);
        }
        return x;
    }

    private static void liftsNumbers() {
        due.says("LIFTS: LEAST COAL; NONE. IllegalArgumentException: a number is none");
        due.says("a basin with so much (0 to 1000), to which so much comes each hour (0 to 100), for n hours (1 to 24) from the next one on, "
                + "in which it must not be above a LIMIT (0 to 1000) at the end of any hour");
        SeaLand x = withEngines(5);
        due.numbers("has", 0, 1000, n -> x.lifts(n, 0, 1, 0));
        due.numbers("comes", 0, 100, n -> x.lifts(0, n, 1, 0));
        due.numbers("n", 1, 24, n -> x.lifts(0, 0, n, 0));
        due.numbers("limit", 0, 1000, n -> x.lifts(0, 0, 1, n));
    }

    private static void liftsLimit() {
        due.says("in which it must not be above a LIMIT (0 to 1000) at the end of any hour");
        SeaLand x = new SeaLand();
        due.is("at the limit, without engines", x.lifts(1000, 0, 24, 1000), 0);
        due.none("one above", x.lifts(1000, 0, 1, 999));
        due.is("it comes up to the limit", x.lifts(0, 10, 24, 240), 0);
        due.none("one above in the last hour", x.lifts(0, 10, 24, 239));
        due.is("but not in the hour ahead", x.lifts(0, 10, 23, 239), 0);
        SeaLand y = withEngines(60);
        due.is("what there is at first may be above", y.lifts(60, 0, 1, 0), 1);
        due.none("one more is not lifted", y.lifts(61, 0, 1, 0));
        due.is("at the end of an hour alone", y.lifts(0, 60, 1, 0), 1);
        due.says("LEAST COAL of all ways to run ENGINES (the first 5 by numbers) hour by hour; none, if no way holds");
        due.is("once is enough", y.lifts(0, 10, 6, 50), 1);
        due.is("six hours of ten", y.lifts(0, 10, 6, 60), 0);
        due.is("each hour", y.lifts(0, 60, 24, 0), 24);
    }

    private static void liftsEngines() {
        due.says("LEAST COAL of all ways to run ENGINES (the first 5 by numbers) hour by hour");
        SeaLand x = withEngines(1, 1, 1, 1, 1, 60);
        due.is("five of them", x.lifts(5, 0, 1, 0), 5);
        due.none("the sixth is none of them", x.lifts(6, 0, 1, 0));
        due.is("one above", x.lifts(6, 0, 1, 1), 5);
        due.says("(never below 0); each burns one COAL (COAL that they have counts for nothing)");
        SeaLand y = withEngines(60, 60);
        due.is("without coal, not on", y.lifts(120, 0, 1, 0), 2);
        y.coal(0, 10000);
        y.turn(0, true);
        due.is("with coal, on", y.lifts(120, 0, 1, 0), 2);
        due.is("never below 0", y.lifts(10, 60, 2, 59), 2);
        due.is("the most that can be asked for", withEngines(20, 20, 20, 20, 20).lifts(0, 100, 24, 0), 120);
        due.none("one engine less", withEngines(20, 20, 20, 20).lifts(0, 100, 24, 0));
    }

    private static void liftsMills() {
        due.says("each hour first it comes, then all MILLS lift by the WIND as told, then those ENGINES that are run lift their POWER");
        SeaLand x = withEngines(5);
        x.mill(5, 17, 19, false);
        x.mill(6, 18, 9, false);
        x.weather(false, 2, 1);
        x.weather(false, 3, NONE);
        x.weather(false, 4, 9);
        due.is("no wind in hour 1", x.lifts(1, 0, 1, 0), 1);
        due.is("each mill by itself: 1 and 0 in hour 2", x.lifts(1, 0, 2, 1), 0);
        due.is("hour 2", x.lifts(2, 0, 2, 2), 0);
        due.is("hour 2", x.lifts(7, 0, 2, 6), 1);
        x.hours(2);
        due.is("no number in hour 3: 9, so 17 and 8", x.lifts(25, 0, 1, 0), 0);
        due.is("one more", x.lifts(26, 0, 1, 0), 1);
        due.is("one is left, then another one", x.lifts(0, 26, 2, 1), 1);
        due.is("it comes first", x.lifts(0, 25, 3, 0), 0);
        due.is("30 each hour", x.lifts(0, 30, 3, 0), 3);
        due.none("31 each hour", x.lifts(0, 31, 3, 0));
        SeaLand z = withEngines(60);
        z.mill(5, 17, 50, false);
        z.weather(false, 1, 9);
        z.weather(false, 3, 0);
        due.is("never below 0: what is lifted too much is no room for later", z.lifts(0, 20, 3, 19), 1);
        due.is("at the limit", z.lifts(0, 20, 3, 20), 0);
        SeaLand y = new SeaLand();
        y.land(0, 95, 0, 0, 0);
        for (int i = 0; i < 30; i++) {
            y.mill(i, i + 12, 60, false);
        }
        y.weather(false, 0, 9);
        due.is("all mills, thirty of them", y.lifts(1000, 100, 24, 0), 0);
    }

    /** A breach that has stood open for that many hours; the outside is at most 0 then. */
    private static SeaLand withBreach(int hours) {
        SeaLand x = new SeaLand();
        x.land(13, 14, -10, 0, 0);
        x.dike(13, 12, 14, 5);
        x.hours(hours);
        return x;
    }

    private static void soonestNumbers() {
        due.says("CLOSING: SOONEST; NONE. IllegalArgumentException: HANDS are none, or LOW not - 1000 to 1000; ClassCastException: it is no BREACH");
        due.says("CLOSING of a BREACH by so many HANDS (1 to 60)");
        SeaLand x = withBreach(1);
        due.numbers("hands", 1, 60, n -> x.soonest(0, n, 0));
        due.numbers("low", -1000, 1000, n -> x.soonest(0, 1, n));
        due.indices("work", 1, n -> x.soonest(n, 1, 0));
        due.wrongIndex("no work, and no hands", () -> x.soonest(1, 0, 0));
        x.shut(0);
        due.wrongKind("a dike", () -> x.soonest(0, 1, 0));
        due.wrongNumber("a dike, and no hands", () -> x.soonest(0, 0, 0));
    }

    private static void soonestHands() {
        due.says("in each hour in which OUTSIDE is at most LOW it is HANDS by 4, rounded down, less, in each other one 2 more (60 at most)");
        SeaLand x = withBreach(1);
        int[][] cases = {{1, NONE}, {3, NONE}, {4, 5}, {7, 5}, {8, 3}, {11, 3}, {12, 3}, {15, 3}, {16, 2}, {60, 2}};
        for (int[] one : cases) {
            due.is("4 wide, hands " + one[0], x.soonest(0, one[0], 0), one[1]);
        }
        due.is("at most low", x.soonest(0, 60, 0), 2);
        due.none("above low", x.soonest(0, 60, -1));
        due.says("SOONEST: the least hour at whose end it is 0 or less");
        due.is("less than 0", x.soonest(0, 12, 0), 3);
        // 60 wide at most: hours 2 to 40 are high, so that it is 60 wide in hour 40, not 82.
        x.storm(2, 40, 1);
        due.is("60 at most", x.soonest(0, 16, 0), 55);
        SeaLand y = withBreach(1);
        y.storm(3, 3, 1);
        due.is("2 more in hour 3", y.soonest(0, 4, 0), 2 + 6);
    }

    private static void soonestBegins() {
        due.says("begun in one of the next 48 hours: until then its WIDTH grows as told");
        SeaLand x = withBreach(1);
        due.is("in the next hour", x.soonest(0, 60, 0), 2);
        x.storm(2, 2, 1);
        due.is("the next one is high", x.soonest(0, 60, 0), 3);
        due.is("3 would be too few for 6", x.soonest(0, 12, 0), 4);
        SeaLand y = withBreach(1);
        y.storm(2, 49, 1);
        due.is("all 48 are high", y.soonest(0, 60, 0), 53);
        SeaLand z = withBreach(1);
        z.storm(2, 150, 1);
        due.is("begun in the first, done behind the 48th", z.soonest(0, 60, 0), 154);
    }

    private static void soonestBound() {
        due.says("of all begins and within 200 hours from now; none");
        for (int high = 139; high <= 142; high++) {
            SeaLand x = withBreach(40);
            due.is("60 wide", x.work(0, 5), 60);
            x.storm(41, 40 + high, 1);
            due.is(high + " high hours, then 60", x.soonest(0, 4, 0), high <= 140 ? 40 + high + 60 : NONE);
        }
        SeaLand y = withBreach(40);
        y.storm(41, 240, 1);
        due.none("no low hour", y.soonest(0, 60, 0));
        SeaLand z = withBreach(40);
        z.storm(41, 236, 1);
        due.is("the last four", z.soonest(0, 60, 0), 240);
        SeaLand w = withBreach(40);
        w.storm(41, 237, 1);
        due.none("three alone", w.soonest(0, 60, 0));
    }

    private static SeaLand withFarm(int crop, int... heights) {
        SeaLand x = new SeaLand();
        for (int i = 0; i < heights.length; i++) {
            x.land(i, i, heights[i], 0, 0);
        }
        x.farm(0, heights.length - 1);
        x.sow(0, crop);
        return x;
    }

    private static void levelsNumbers() {
        due.says("LEVELS: BEST; NONE. IllegalArgumentException: STEP is not 0 to 1000");
        SeaLand x = withFarm(1, 0, 0);
        due.numbers("step", 0, 1000, n -> x.levels(0, n));
        due.indices("farm", 1, n -> x.levels(n, 0));
        due.wrongIndex("no farm, and no step", () -> x.levels(1, 1001));
    }

    private static void levelsWorth() {
        due.says("grass 20 less a fifth of what the depth is off 60, barley 50 less half of what it is off 120, rape 40 less a third off 100, "
                + "none 0 (each rounded down, the part; not below 0)");
        due.says("each has a depth of 40, 80, 120 or 160 below its HEIGHT");
        int[][] worths = {{0, 0, 0, 0}, {16, 16, 8, 0}, {10, 30, 50, 30}, {20, 34, 34, 20}};
        for (int crop = 0; crop <= 3; crop++) {
            for (int apart = -4; apart <= 4; apart++) {
                // With a step of 0 both depths are as far apart as the heights are.
                due.is("crop " + crop + " apart " + apart, withFarm(crop, Math.max(0, 40 * apart), Math.max(0, -40 * apart)).levels(0, 0),
                        bestPair(worths[crop], apart));
            }
        }
        for (int crop = 1; crop <= 3; crop++) {
            due.is("40 below and 160", withFarm(crop, 0, 120).levels(0, 0), worths[crop][0] + worths[crop][3]);
            due.is("160 below and 40", withFarm(crop, 120, 0).levels(0, 0), worths[crop][3] + worths[crop][0]);
        }
        due.is("one alone", withFarm(2, 300).levels(0, 0), 50);
        due.is("one alone", withFarm(2, -900).levels(0, 0), 50);
    }

    private static int bestPair(int[] worths, int apart) {
        int best = NONE;
        for (int one = 0; one < 4; one++) {
            int other = one - apart;
            if (other >= 0 && other < 4) {
                best = Math.max(best, worths[one] + worths[other]);
            }
        }
        return best;
    }

    private static void levelsStep() {
        due.says("two of them beside one another may not be unlike in their level (HEIGHT less depth) by more than STEP");
        for (int apart = 118; apart <= 122; apart++) {
            int over = Math.max(0, apart - 120);
            due.is("apart " + apart, withFarm(0, apart, 0).levels(0, over), apart == 118 || apart == 119 ? NONE : 0);
            due.is("with a step less", over == 0 ? NONE : withFarm(0, apart, 0).levels(0, over - 1), NONE);
        }
        due.is("a step of 1000", withFarm(0, 300, -820).levels(0, 1000), 0);
        due.none("a little more", withFarm(0, 300, -821).levels(0, 1000));
        due.says("BEST: the greatest sum; none, if there is no way");
        due.none("no way at all", withFarm(2, 0, 1).levels(0, 0));
        due.is("a step of 1", withFarm(2, 0, 1).levels(0, 1), 100);
        due.none("two that agree, a third that does not", withFarm(2, 0, 0, 1).levels(0, 0));
        SeaLand x = new SeaLand();
        x.land(0, 0, 0, 0, 0);
        x.land(1, 1, 40, 0, 0);
        x.land(12, 12, 40, 0, 0);
        x.land(13, 13, 0, 0, 0);
        x.farm(0, 13);
        x.sow(0, 2);
        due.is("above and below are beside, too", x.levels(0, 0), 160);
    }

    private static void levelsSquares() {
        due.says("LEVELS: of at most 6 SQUARES (the first ones of a FARM, by numbers)");
        due.is("six", withFarm(2, 0, 0, 0, 0, 0, 0).levels(0, 0), 300);
        due.is("seven", withFarm(2, 0, 0, 0, 0, 0, 0, 0).levels(0, 0), 300);
        due.is("the seventh may be off", withFarm(2, 0, 0, 0, 0, 0, 0, 1).levels(0, 0), 300);
        due.none("the sixth may not", withFarm(2, 0, 0, 0, 0, 0, 1).levels(0, 0));
        SeaLand x = new SeaLand();
        x.land(0, 95, 0, 0, 0);
        x.land(11, 11, 1, 0, 0);
        x.land(12, 12, 1, 0, 0);
        x.farm(0, 95);
        x.sow(0, 2);
        due.is("all there is: 0 to 5", x.levels(0, 0), 300);
        SeaLand y = new SeaLand();
        y.land(10, 35, 0, 0, 0);
        y.land(22, 23, 100, 0, 0);
        y.farm(35, 10);
        y.sow(0, 2);
        due.none("by numbers: 10, 11, 22, 23, 34, 35", y.levels(0, 19));
        due.is("by numbers", y.levels(0, 100), 300);
    }

    private static void jobs() {
        due.says("A JOB: how many there are; NONE, and it does not come, if there are 7. IllegalArgumentException: a number is none (ACRES 0 to 1000)");
        due.says("each costs so much (0 to 1000000), lasts so many years (1 to 20), and brings so much each year from its end on (0 to 100000)");
        due.numbers("cost", 0, 1000000, n -> new SeaLand().job(n, 1, 0, 0));
        due.numbers("years", 1, 20, n -> new SeaLand().job(0, n, 0, 0));
        due.numbers("brings", 0, 100000, n -> new SeaLand().job(0, 1, n, 0));
        due.numbers("acres", 0, 1000, n -> new SeaLand().job(0, 1, 0, n));
        SeaLand x = new SeaLand();
        due.says("No JOBS any more: how many there were");
        due.is("none", x.jobs(), 0);
        due.says("ORDER of JOBS (at most 7)");
        for (int i = 1; i <= 7; i++) {
            due.is("job", x.job(0, 1, 0, i), i);
        }
        int seven = x.order(0, NONE);
        due.none("an 8th", x.job(0, 20, 0, 1000));
        due.is("it did not come", x.order(0, NONE), seven);
        due.wrongNumber("an 8th that is wrong", () -> x.job(0, 21, 0, 0));
        due.is("seven", x.jobs(), 7);
        due.is("none", x.jobs(), 0);
        due.is("no order", x.order(0, NONE), 0);
        due.is("from 1 on", x.job(0, 1, 0, 0), 1);
    }

    private static void orderAsked() {
        due.says("the LATENESS of the BEST (place NONE; 0 without JOBS), or the JOB at a place of it (from 0 on; NONE if there is none such); NONE without one. "
                + "IllegalArgumentException: coin is not 0 to 1000000");
        SeaLand x = new SeaLand();
        due.numbers("coin", 0, 1000000, n -> x.order(n, NONE));
        due.is("without jobs", x.order(0, NONE), 0);
        due.none("no place", x.order(0, 0));
        x.job(5, 2, 0, 3);
        x.job(0, 1, 0, 3);
        due.numbers("coin", 0, 1000000, n -> x.order(n, 0));
        due.is("lateness", x.order(5, NONE), 3 + 9);
        due.is("the first", x.order(5, 0), 1);
        due.is("the second", x.order(5, 1), 0);
        for (int place : new int[] {2, 3, 6, 7, 8, -2, Integer.MAX_VALUE, Integer.MIN_VALUE}) {
            due.none("place " + place, x.order(5, place));
        }
        due.none("without a best one", x.order(4, NONE));
        due.none("without a best one", x.order(4, 0));
        due.none("without a best one", x.order(4, 1));
        due.is("asked again", x.order(5, 0), 1);
    }

    private static int lateness(int coin, int[]... jobs) {
        SeaLand x = new SeaLand();
        for (int[] job : jobs) {
            x.job(job[0], job[1], job[2], job[3]);
        }
        return x.order(coin, NONE);
    }

    private static void orderWaits() {
        due.says("and ACRES: one after the other, from so much coin: a JOB is begun when its cost is there (and paid); years go by in whole ones, in each of which what is done brings first; "
                + "one waits as long as needed");
        due.is("its cost is there", lateness(10, new int[] {10, 3, 0, 1}), 3);
        due.none("one too few, and nothing comes", lateness(9, new int[] {10, 3, 0, 1}));
        // The first is done in year 1 and brings 5 in each year from 2 on.
        int[] first = {0, 1, 5, 0};
        due.is("nothing to wait for", lateness(5, first, new int[] {5, 1, 0, 1}), 1);
        due.is("one year", lateness(0, first, new int[] {5, 1, 0, 1}), 3);
        due.is("one year, not two", lateness(1, first, new int[] {6, 1, 0, 1}), 3);
        due.is("two years", lateness(0, first, new int[] {6, 1, 0, 1}), 4);
        due.is("two years", lateness(0, first, new int[] {10, 1, 0, 1}), 4);
        due.is("paid: the second waits anew", lateness(0, first, new int[] {5, 1, 0, 1}, new int[] {5, 1, 0, 1}), 3 + 4);
        due.is("paid: the coin is gone", lateness(10, first, new int[] {10, 2, 0, 100}, new int[] {10, 1, 0, 1}), 206);
        due.is("it brings while others last", lateness(0, first, new int[] {0, 4, 0, 1}, new int[] {20, 1, 0, 100}), 5 + 600);
        due.is("not in the year of its end", lateness(4, new int[] {4, 1, 4, 0}, new int[] {4, 1, 0, 1}), 3);
    }

    private static void orderYears() {
        due.says("(none may be done behind year 200)");
        int[] one = {0, 1, 1, 0};
        for (int years = 1; years <= 20; years++) {
            int most = 199 - years;
            due.is("done in year 200", lateness(0, one, new int[] {most, years, 0, 1}), 200);
            due.none("done in year 201", lateness(0, one, new int[] {most + 1, years, 0, 1}));
        }
        due.is("seven of twenty years each", lateness(0, twenty(), twenty(), twenty(), twenty(), twenty(), twenty(), twenty()),
                1000 * 20 * 28);
        due.none("nothing ever comes", lateness(999999, new int[] {1000000, 1, 100000, 1}));
        due.is("all there can be", lateness(1000000, new int[] {1000000, 20, 100000, 1000}), 20000);
    }

    private static int[] twenty() {
        return new int[] {0, 20, 100000, 1000};
    }

    private static void orderLeast() {
        due.says("LATENESS: the sum of ACRES times the year in which each is done. BEST order: the least LATENESS, "
                + "of several the first in which the JOBS' numbers are least; none");
        SeaLand x = new SeaLand();
        for (int i = 0; i < 7; i++) {
            x.job(0, 1, 0, 5);
        }
        due.is("lateness", x.order(0, NONE), 5 * 28);
        for (int i = 0; i < 7; i++) {
            due.is("of several the least numbers", x.order(0, i), i);
        }
        SeaLand y = new SeaLand();
        for (int i = 0; i < 7; i++) {
            y.job(0, 1, 0, i);
        }
        for (int i = 0; i < 7; i++) {
            due.is("the most acres first", y.order(0, i), 6 - i);
        }
        SeaLand z = new SeaLand();
        z.job(0, 3, 0, 0);
        z.job(0, 1, 0, 1);
        z.job(0, 2, 0, 0);
        due.is("lateness", z.order(0, NONE), 1);
        due.is("acres first", z.order(0, 0), 1);
        due.is("then the least number", z.order(0, 1), 0);
        due.is("then the next", z.order(0, 2), 2);
    }

    private static void nothingChanges() {
        due.says("PLANS (nothing changes by them)");
        SeaLand x = withBreach(3);
        x.farm(14, 14);
        x.job(1, 1, 1, 1);
        x.hours(1);
        String before = Seen.all(x);
        x.lifts(10, 10, 24, 10);
        x.soonest(0, 60, 0);
        x.levels(0, 0);
        x.order(10, NONE);
        due.is("the same", Seen.all(x).equals(before), true);
        due.is("rows stay", x.count(17), 4);
    }
}
