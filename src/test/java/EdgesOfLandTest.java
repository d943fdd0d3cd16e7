/** The edges that the document names of the land, the sky and the hours: promises 1, 4 to 9, 19, 20 and their terms. */
public final class EdgesOfLandTest {
    private static final int NONE = SeaLand.NONE;
    private static final Due due = new Due();

    public static void main(String[] args) {
        squares();
        beside();
        kindsOfSquares();
        landNumbers();
        waterAndSalt();
        levels();
        hourAndDay();
        tides();
        storms();
        tellings();
        noNumber();
        skyAsked();
        rain();
        ditches();
        saltThatGoes();
        endOfDay();
        sinking();
        saltOfDryLand();
        squareAsked();
        due.end();
    }

    private static SeaLand land(int from, int to, int height, int soil, int ditch) {
        SeaLand x = new SeaLand();
        x.land(from, to, height, soil, ditch);
        return x;
    }

    private static void squares() {
        due.says("SQUARES x 0 to 11, y 0 to 7; number 12 y + x");
        SeaLand x = new SeaLand();
        due.is("all of them", x.land(0, 95, 0, 0, 0), 96);
        due.indices("land from", 96, s -> new SeaLand().land(s, 5, 0, 0, 0));
        due.indices("land to", 96, s -> new SeaLand().land(5, s, 0, 0, 0));
        due.indices("fill", 96, s -> x.fill(s, 0, 0));
        due.indices("square", 96, s -> x.square(s, 0));
        SeaLand y = new SeaLand();
        due.is("a row is twelve wide", y.land(12, 23, 0, 0, 0), 12);
        due.is("ahead of it", y.square(11, 0), 0);
        due.is("its first", y.square(12, 0), 1);
        due.is("its last", y.square(23, 0), 1);
        due.is("behind it", y.square(24, 0), 0);
        SeaLand z = new SeaLand();
        due.is("a column is eight high", z.land(11, 95, 0, 0, 0), 8);
        for (int row = 0; row < 8; row++) {
            due.is("its square", z.square(12 * row + 11, 0), 1);
            due.is("left of it", z.square(12 * row + 10, 0), 0);
            due.is("the other edge", z.square(12 * row, 0), 0);
        }
        due.says("All SQUARES of the rectangle from one to another one are LAND of that HEIGHT, SOIL and DITCH");
        due.is("one square", land(40, 40, 0, 0, 0).square(40, 0), 1);
        for (int[] corners : new int[][] {{14, 40}, {40, 14}, {16, 38}, {38, 16}}) {
            SeaLand w = new SeaLand();
            due.is("three by three", w.land(corners[0], corners[1], 7, 1, 2), 9);
            for (int s = 0; s < 96; s++) {
                boolean in = s % 12 >= 2 && s % 12 <= 4 && s / 12 >= 1 && s / 12 <= 3;
                due.is("square " + s, w.square(s, 0), in ? 1 : 0);
                due.is("height of " + s, w.square(s, 1), in ? 7 : 0);
                due.is("soil of " + s, w.square(s, 2), in ? 1 : 0);
                due.is("ditch of " + s, w.square(s, 3), in ? 2 : 0);
            }
        }
        due.says("how many were SEA");
        due.is("eight more", y.land(11, 35, 0, 0, 0), 2);
        due.is("none of a third telling", y.land(11, 35, 1, 1, 1), 0);
    }

    private static void beside() {
        due.says("beside: above, below, right, left");
        for (int from : new int[] {0, 5, 11, 12, 23, 40, 84, 90, 95}) {
            for (int to = 0; to < 96; to++) {
                boolean beside = Math.abs(from % 12 - to % 12) + Math.abs(from / 12 - to / 12) == 1;
                SeaLand x = land(from, from, 0, 0, 0);
                due.is("mill from " + from + " to " + to, x.mill(from, to, 5, false), beside ? 0 : NONE);
                SeaLand y = land(from, from, 0, 0, 0);
                due.is("sluice from " + from + " to " + to, y.sluice(from, to, 5), beside ? 0 : NONE);
            }
        }
    }

    private static void kindsOfSquares() {
        due.says("Each is SEA (at first) or LAND");
        SeaLand x = new SeaLand();
        for (int s = 0; s < 96; s++) {
            due.is("sea " + s, x.square(s, 0), 0);
        }
        due.says("`SeaLand()`: SEA alone; no LAW; HOUR 0.");
        for (int what = 0; what <= 17; what++) {
            due.is("count " + what, x.count(what), 0);
        }
        due.says("1 to 5, 7, 8 are 0 of SEA");
        x.tide(0, 123);
        for (int what = 0; what <= 8; what++) {
            due.is("of sea " + what, x.square(50, what), what == 6 ? 123 : 0);
        }
        due.none("no farm", x.square(50, 9));
        due.none("no work", x.square(50, 10));
    }

    private static void landNumbers() {
        SeaLand x = new SeaLand();
        due.says("LAND has a HEIGHT (- 900 to 300; 0 is the sea's mean)");
        due.numbers("height", -900, 300, n -> x.land(0, 0, n, 0, 0));
        due.is("the last one", x.square(0, 1), 300);
        x.land(0, 0, -900, 0, 0);
        due.is("the least", x.square(0, 1), -900);
        due.says("a SOIL (0 sand, 1 clay, 2 peat)");
        due.numbers("soil", 0, 2, n -> x.land(0, 0, 0, n, 0));
        due.is("the last one", x.square(0, 2), 2);
        due.says("a DITCH (0 to 20)");
        due.numbers("ditch", 0, 20, n -> x.land(0, 0, 0, 0, n));
        due.is("the last one", x.square(0, 3), 20);
        due.says("IllegalStateException: HOUR is above 0");
        x.hours(0);
        due.is("at hour 0", x.land(1, 1, 0, 0, 0), 1);
        x.hours(1);
        due.wrongState("at hour 1", () -> x.land(2, 2, 0, 0, 0));
        due.is("it stays sea", x.square(2, 0), 0);
        due.wrongState("of land, too", () -> x.land(1, 1, 5, 0, 0));
        due.is("it stays", x.square(1, 1), 0);
        due.says("without WATER and SALT: how many were SEA");
        SeaLand y = land(0, 1, 0, 0, 0);
        y.fill(0, 900, 100000);
        y.land(0, 0, 0, 0, 0);
        due.is("no water", y.square(0, 4), 0);
        due.is("no salt", y.square(0, 5), 0);
    }

    private static void waterAndSalt() {
        SeaLand x = land(0, 1, 0, 0, 0);
        due.says("WATER (0 to 900 as it is told; whole)");
        due.numbers("water", 0, 900, n -> x.fill(0, n, 0));
        due.is("the last one", x.square(0, 4), 900);
        due.says("SALT (0 to 100000)");
        due.numbers("salt", 0, 100000, n -> x.fill(0, 0, n));
        due.is("the last one", x.square(0, 5), 100000);
        due.says("false, and nothing happens, if it is SEA");
        due.is("sea", x.fill(2, 900, 100000), false);
        due.is("no water", x.square(2, 4), 0);
        due.is("no salt", x.square(2, 5), 0);
        due.is("none told", x.count(16), 0);
        due.wrongNumber("sea, and wrong", () -> x.fill(2, 901, 0));
        due.says("WATER (0 to 900 as it is told; whole)");
        x.fill(0, 900, 0);
        x.weather(true, 0, 20);
        x.hours(1);
        due.is("not told: rain above 900", x.square(0, 4), 920);
        due.says("16 WATER that fill() and land() told more than was there (less: below 0)");
        SeaLand y = land(0, 0, 0, 0, 0);
        y.weather(true, 0, 10);
        y.hours(3);
        y.fill(0, 30, 0);
        due.is("as much", y.count(16), 0);
        y.fill(0, 31, 0);
        due.is("one more", y.count(16), 1);
        y.fill(0, 0, 0);
        due.is("less", y.count(16), -30);
        SeaLand z = land(0, 0, 0, 0, 0);
        z.fill(0, 900, 0);
        z.land(0, 0, 0, 0, 0);
        due.is("land tells less", z.count(16), 0);
    }

    private static void levels() {
        due.says("LEVEL: HEIGHT and WATER together; of SEA the OUTSIDE level of that hour");
        SeaLand x = land(0, 0, -900, 0, 0);
        due.is("without water", x.square(0, 6), -900);
        x.fill(0, 900, 0);
        due.is("with water", x.square(0, 6), 0);
        x.tide(0, 5);
        x.tide(1, 6);
        x.storm(1, 1, 500);
        due.is("sea at hour 0", x.square(1, 6), 5);
        x.hours(1);
        due.is("sea at hour 1", x.square(1, 6), 506);
        x.hours(1);
        due.is("sea at hour 2", x.square(1, 6), 0);
    }

    private static void hourAndDay() {
        due.says("HOUR: 0 at first, 40000 at last; DAY: HOUR by 24, rounded down");
        SeaLand x = new SeaLand();
        due.is("hour", x.count(0), 0);
        due.is("23 hours", x.hours(23), 23);
        due.is("day", x.count(1), 0);
        due.is("24 hours", x.hours(1), 24);
        due.is("day", x.count(1), 1);
        x.hours(23);
        due.is("day", x.count(1), 1);
        due.says("So many HOURS, as far as HOUR may go: HOUR. IllegalArgumentException: not 0 to 240");
        SeaLand y = new SeaLand();
        due.numbers("hours", 0, 240, n -> y.hours(n));
        due.is("0, 120 and 240", y.hours(0), 360);
        for (int i = 0; i < 165; i++) {
            y.hours(240);
        }
        due.is("39960", y.count(0), 39960);
        due.is("39", y.hours(39), 39999);
        due.is("two, but one is left", y.hours(2), 40000);
        due.is("none", y.hours(240), 40000);
        due.is("none", y.hours(0), 40000);
        due.wrongNumber("at the last hour, too", () -> y.hours(241));
        due.is("day", y.count(1), 1666);
        due.is("rows of 24 hours", y.count(17), 24);
        y.tide(0, 1);
        y.hours(1);
        due.is("no hour goes by, no row", y.count(17), 0);
    }

    private static void tides() {
        due.says("TIDE: twelve levels (- 400 to 400; 0 at first), that of an hour by HOUR modulo 12");
        SeaLand x = new SeaLand();
        for (int hour = 0; hour < 24; hour++) {
            due.is("at first", x.sky(hour, 0), 0);
        }
        due.says("TIDE: one of the twelve. IllegalArgumentException: it is none, or the level");
        due.numbers("at", 0, 11, n -> x.tide(n, 0));
        due.numbers("level", -400, 400, n -> x.tide(0, n));
        due.is("the last one", x.sky(0, 0), 400);
        for (int at = 0; at < 12; at++) {
            x.tide(at, 10 * at - 400);
        }
        for (int hour : new int[] {0, 1, 11, 12, 13, 23, 24, 39995, 39996, 39999, 40000}) {
            due.is("tide of " + hour, x.sky(hour, 0), 10 * (hour % 12) - 400);
        }
    }

    private static void storms() {
        due.says("STORMS (at most 20): from an hour to another one (both too) so much (1 to 500) more");
        SeaLand x = new SeaLand();
        due.is("a storm", x.storm(10, 12, 500), 1);
        due.is("ahead", x.sky(9, 0), 0);
        due.is("from", x.sky(10, 0), 500);
        due.is("within", x.sky(11, 0), 500);
        due.is("to", x.sky(12, 0), 500);
        due.is("behind", x.sky(13, 0), 0);
        due.is("of one hour", x.storm(20, 20, 1), 2);
        due.is("ahead", x.sky(19, 0), 0);
        due.is("in it", x.sky(20, 0), 1);
        due.is("behind", x.sky(21, 0), 0);
        due.numbers("more", 1, 500, n -> new SeaLand().storm(0, 0, n));
        due.says("the hours are none (0 to from to to to 40000), or how much");
        due.numbers("from 0 to the other one", 0, 9, n -> new SeaLand().storm(n, 9, 1));
        due.numbers("to from the other one on", 9, 40000, n -> new SeaLand().storm(9, n, 1));
        due.is("all hours", x.storm(0, 40000, 7), 3);
        due.is("the first", x.sky(0, 0), 7);
        due.is("the last", x.sky(40000, 0), 7);
        due.says("OUTSIDE: the TIDE and all STORMS of that hour");
        x.tide(10, -400);
        due.is("three together", x.sky(10, 0), 107);
        due.says("A STORM: how many there are; NONE, and it does not come, if there are 20");
        for (int i = 4; i <= 20; i++) {
            due.is("storm", x.storm(30, 30, 500), i);
        }
        due.is("17 of them", x.sky(30, 0), 17 * 500 + 7);
        due.none("a 21st", x.storm(31, 31, 500));
        due.is("it did not come", x.sky(31, 0), 7);
        due.wrongNumber("a 21st that is wrong", () -> x.storm(31, 31, 501));
    }

    private static void tellings() {
        due.says("WIND of an hour (0 to 9), RAIN (0 to 20): told for an hour on, up to the next such telling");
        SeaLand x = new SeaLand();
        due.numbers("rain", 0, 20, n -> x.weather(true, 0, n));
        due.is("the last one", x.sky(0, 2), 20);
        due.numbers("wind, or no number", -1, 9, n -> x.weather(false, 0, n));
        due.is("the last one", x.sky(0, 1), 9);
        due.says("IllegalArgumentException: the hour is not 0 to 40000, or the number is none");
        due.numbers("hour of rain", 0, 40000, n -> x.weather(true, n, 1));
        due.numbers("hour of wind", 0, 40000, n -> x.weather(false, n, 1));
        due.says("up to the next such telling (0 at first; at most 60 tellings of each; of the same hour the latest)");
        for (boolean rain : new boolean[] {true, false}) {
            int what = rain ? 2 : 1;
            SeaLand y = new SeaLand();
            due.is("0 at first", y.sky(0, what), 0);
            due.is("0 at first", y.sky(40000, what), 0);
            due.is("one", y.weather(rain, 5, 3), 1);
            due.is("two", y.weather(rain, 8, 4), 2);
            int[] want = {0, 0, 0, 0, 0, 3, 3, 3, 4, 4};
            for (int hour = 0; hour < 10; hour++) {
                due.is("of hour " + hour, y.sky(hour, what), want[hour]);
            }
            due.is("to the last", y.sky(40000, what), 4);
            due.is("the other one", y.sky(8, 3 - what), 0);
            due.is("the same hour", y.weather(rain, 5, 1), 3);
            due.is("the latest", y.sky(5, what), 1);
            due.is("the same hour", y.weather(rain, 5, 9), 4);
            due.is("the latest", y.sky(7, what), 9);
            due.is("between, told later", y.weather(rain, 6, 2), 5);
            due.is("up to it", y.sky(5, what), 9);
            due.is("from it on", y.sky(7, what), 2);
            for (int i = 6; i <= 60; i++) {
                due.is("telling", y.weather(rain, 40000, i % 9), i);
            }
            due.says("how many tellings of it there are; NONE, and it is not told, if there are 60");
            due.none("a 61st", y.weather(rain, 0, 9));
            due.is("it is not told", y.sky(0, what), 0);
            due.none("a 61st, also of an hour that is told", y.weather(rain, 40000, 9));
            due.is("the 60th stays", y.sky(40000, what), 60 % 9);
            due.wrongNumber("a 61st that is wrong", () -> y.weather(rain, 40001, 0));
            due.is("the other has its own sixty", y.weather(!rain, 0, 1), 1);
        }
    }

    private static void noNumber() {
        due.says("A WIND may be told to be no number");
        due.wrongNumber("no rain may", () -> new SeaLand().weather(true, 0, NONE));
        due.says("then it is the greater of the two that are told for the nearest hour ahead of its own and for the nearest "
                + "behind it, of those that are numbers");
        for (int ahead = -1; ahead <= 9; ahead++) {
            for (int behind = -1; behind <= 9; behind++) {
                SeaLand x = new SeaLand();
                x.weather(false, 9, 9);
                x.weather(false, 9, NONE);
                x.weather(false, 10, ahead);
                x.weather(false, 20, NONE);
                x.weather(false, 30, behind);
                due.is("between " + ahead + " and " + behind, x.sky(25, 1), Math.max(0, Math.max(ahead, behind)));
                due.is("at its own hour", x.sky(20, 1), Math.max(0, Math.max(ahead, behind)));
                due.is("one hour ahead of it", x.sky(19, 1), ahead >= 0 ? ahead : Math.max(0, behind));
            }
        }
        due.says("(none there: 0; of one hour the latest telling alone counts, here too)");
        SeaLand z = new SeaLand();
        z.weather(false, 5, 4);
        z.weather(false, 10, NONE);
        due.is("the first telling is the nearest ahead", z.sky(10, 1), 4);
        z.weather(false, 20, 3);
        due.is("the lesser one behind", z.sky(10, 1), 4);
        z.weather(false, 15, 6);
        due.is("the last telling is the nearest behind", z.sky(10, 1), 6);
        SeaLand y = new SeaLand();
        y.weather(false, 0, NONE);
        due.is("none at all", y.sky(40000, 1), 0);
        y.weather(false, 10, 8);
        due.is("behind alone", y.sky(9, 1), 8);
        y.weather(false, 10, NONE);
        due.is("it was told anew", y.sky(9, 1), 0);
        due.is("and itself has none", y.sky(10, 1), 0);
        y.weather(false, 10, 3);
        due.is("and anew", y.sky(9, 1), 3);
        y.weather(false, 0, 5);
        y.weather(false, 20, NONE);
        due.is("ahead alone: the nearest, not the greatest", y.sky(20, 1), 3);
        y.weather(false, 40000, 1);
        due.is("the last hour counts", y.sky(39999, 1), 3);
        y.weather(false, 10, 0);
        due.is("0 is a number", y.sky(39999, 1), 1);
    }

    private static void skyAsked() {
        due.says("NoSuchElementException: another what, or the hour is not 0 to 40000");
        SeaLand x = new SeaLand();
        due.whats("hour", 40000, n -> x.sky(n, 0));
        due.whats("what", 2, n -> x.sky(0, n));
        due.says("Of an hour what 0 OUTSIDE, 1 WIND, 2 RAIN");
        x.tide(4, 77);
        x.weather(false, 4, 8);
        x.weather(true, 4, 19);
        due.is("outside", x.sky(4, 0), 77);
        due.is("wind", x.sky(4, 1), 8);
        due.is("rain", x.sky(4, 2), 19);
    }

    private static void rain() {
        due.says("HOUR is one more, then, by its TIDE, STORMS, WIND, RAIN");
        SeaLand x = land(0, 1, 0, 0, 0);
        x.weather(true, 0, 5);
        x.weather(true, 1, 7);
        x.weather(true, 2, 0);
        x.hours(1);
        due.is("the rain of hour 1", x.square(0, 4), 7);
        x.hours(1);
        due.is("the rain of hour 2", x.square(0, 4), 7);
        due.says("(a) each LAND SQUARE has RAIN more WATER");
        due.is("sea has none", x.square(2, 4), 0);
        due.is("13 RAIN in all (units)", x.count(13), 14);
        due.is("of a sea alone", rainOnSea(), 0);
    }

    private static int rainOnSea() {
        SeaLand x = new SeaLand();
        x.weather(true, 0, 20);
        x.hours(5);
        return x.count(13);
    }

    /** Two squares beside one another; what the first one has behind one hour. */
    private static int left(int height, int water, int ditch, int otherHeight, int otherDitch) {
        SeaLand x = land(40, 40, height, 0, ditch);
        x.land(41, 41, otherHeight, 0, otherDitch);
        x.fill(40, water, 0);
        x.hours(1);
        due.is("nothing is lost", x.count(4), water);
        return x.square(40, 4);
    }

    private static void ditches() {
        due.says("if that is below its own, half the difference, but not more than the lesser DITCH, nor its WATER");
        due.is("half", left(0, 20, 20, 0, 20), 10);
        due.is("half, rounded down", left(0, 21, 20, 0, 20), 11);
        due.is("half of 1 is nothing", left(0, 1, 20, 0, 20), 1);
        due.is("half of 2", left(0, 2, 20, 0, 20), 1);
        due.is("as high", left(0, 20, 20, 20, 20), 20);
        due.is("higher", left(0, 20, 20, 21, 20), 20);
        due.is("the lesser is its own", left(0, 100, 7, 0, 20), 93);
        due.is("the lesser is the other's", left(0, 100, 20, 0, 7), 93);
        due.is("half is the ditch", left(0, 40, 20, 0, 20), 20);
        due.is("half is less than the ditch", left(0, 39, 20, 0, 20), 20);
        due.is("its water", left(0, 3, 20, -100, 20), 0);
        due.is("one ditch alone", left(0, 20, 20, 0, 0), 20);
        due.is("the other ditch alone", left(0, 20, 0, 0, 20), 20);
        due.is("below the mean", left(-900, 5, 20, -900, 20), 3);
        due.says("each LAND SQUARE with a DITCH gives to that LAND SQUARE with a DITCH beside it whose LEVEL is least (of several the least number)");
        int[] around = {28, 39, 41, 52};
        for (int mask = 1; mask < 16; mask++) {
            SeaLand x = land(40, 40, 0, 0, 20);
            int least = NONE;
            for (int i = 3; i >= 0; i--) {
                if ((mask >> i & 1) == 1) {
                    x.land(around[i], around[i], -5, 0, 20);
                    least = around[i];
                }
            }
            x.fill(40, 11, 0);
            x.hours(1);
            due.is("of " + mask + " the least number", x.square(least, 4), 8);
            SeaLand y = land(40, 40, 0, 0, 20);
            for (int i = 0; i < 4; i++) {
                y.land(around[i], around[i], (mask >> i & 1) == 1 ? -5 : -4, 0, 20);
            }
            y.fill(40, 11, 0);
            y.hours(1);
            due.is("of " + mask + " the least level", y.square(least, 4), 8);
        }
        SeaLand z = land(40, 40, 0, 0, 20);
        z.fill(40, 20, 0);
        z.tide(1, -400);
        z.hours(1);
        due.is("never to the sea", z.square(40, 4), 20);
    }

    private static void saltThatGoes() {
        due.says("What leaves a SQUARE takes SALT with it: SALT times what leaves, by the WATER (as it was ahead of its leaving) and 10 together, rounded down");
        int[][] cases = {{20, 30, 10}, {20, 29, 9}, {20, 2, 0}, {20, 3, 1}, {20, 100000, 33333}, {2, 12, 1}, {2, 11, 0}};
        for (int[] one : cases) {
            SeaLand x = land(40, 41, 0, 0, 20);
            x.fill(40, one[0], one[1]);
            x.hours(1);
            due.is("salt of " + one[1] + " in " + one[0], x.square(41, 5), one[2]);
            due.is("what stays", x.square(40, 5), one[1] - one[2]);
        }
        SeaLand y = land(40, 41, 0, 0, 20);
        y.fill(40, 0, 5000);
        y.hours(1);
        due.is("no water, no salt", y.square(41, 5), 0);
        due.says("What goes to SEA is gone");
        SeaLand z = land(40, 40, 0, 0, 0);
        z.mill(40, 41, 60, true);
        z.turn(0, true);
        z.coal(0, 2);
        z.fill(40, 50, 600);
        z.hours(1);
        due.is("all water", z.count(4), 0);
        due.is("not all salt", z.count(5), 100);
        due.is("15 what went to the sea", z.count(15), 50);
    }

    private static void endOfDay() {
        due.says("At the end of each 24th HOUR: each LAND SQUARE: without WATER DRY is one more (else 0), with WATER WET is one more");
        SeaLand x = land(0, 0, 0, 0, 0);
        x.land(1, 1, 0, 0, 0);
        x.fill(1, 1, 0);
        x.hours(23);
        due.is("not yet dry", x.square(0, 7), 0);
        due.is("not yet wet", x.square(1, 8), 0);
        x.hours(1);
        due.is("dry", x.square(0, 7), 1);
        due.is("not wet", x.square(0, 8), 0);
        due.is("wet", x.square(1, 8), 1);
        due.is("not dry", x.square(1, 7), 0);
        due.is("sea is neither", x.square(2, 7) + x.square(2, 8), 0);
        x.hours(23);
        due.is("still", x.square(0, 7), 1);
        x.hours(1);
        due.is("two", x.square(0, 7), 2);
        x.fill(0, 1, 0);
        x.fill(1, 0, 0);
        x.hours(24);
        due.is("dry is 0", x.square(0, 7), 0);
        due.is("wet", x.square(0, 8), 1);
        due.is("dry", x.square(1, 7), 1);
        due.is("wet stays", x.square(1, 8), 2);
        due.says("DRY: days one behind the other at whose end it had no WATER");
        x.fill(0, 0, 0);
        x.hours(24);
        due.is("dry anew", x.square(0, 7), 1);
        due.is("wet stays", x.square(0, 8), 1);
        x.fill(0, 1, 0);
        x.hours(23);
        x.fill(0, 0, 0);
        x.hours(1);
        due.is("the end alone counts", x.square(0, 7), 2);
        due.says("WET: days since the latest harvest at whose end it had");
        x.harvest();
        due.is("none since", x.square(1, 8), 0);
        due.is("dry stays", x.square(0, 7), 2);
    }

    private static void sinking() {
        due.says("peat: each time DRY is 3, 6, 9, .. HEIGHT is 1 less; clay: 10, 20, ..; sand never");
        SeaLand x = land(0, 0, 0, 0, 0);
        x.land(1, 1, 0, 1, 0);
        x.land(2, 2, 0, 2, 0);
        x.land(3, 3, -900, 2, 0);
        for (int day = 1; day <= 31; day++) {
            x.hours(24);
            due.is("sand on day " + day, x.square(0, 1), 0);
            due.is("clay on day " + day, x.square(1, 1), -(day / 10));
            due.is("peat on day " + day, x.square(2, 1), -(day / 3));
            due.is("peat, told the least, on day " + day, x.square(3, 1), -900 - day / 3);
        }
        x.fill(2, 1, 0);
        x.hours(24);
        due.is("with water it stands", x.square(2, 1), -10);
        x.fill(2, 0, 0);
        x.hours(48);
        due.is("two days anew", x.square(2, 1), -10);
        x.hours(24);
        due.is("three days anew", x.square(2, 1), -11);
    }

    private static void saltOfDryLand() {
        due.says("SALT is a hundredth less, rounded down, if its WATER is 0");
        int[][] cases = {{0, 0}, {99, 99}, {100, 99}, {199, 198}, {200, 198}, {100000, 99000}};
        for (int[] one : cases) {
            SeaLand x = land(0, 1, 0, 0, 0);
            x.fill(0, 0, one[0]);
            x.fill(1, 1, one[0]);
            x.hours(23);
            due.is("not yet", x.square(0, 5), one[0]);
            x.hours(1);
            due.is("of " + one[0], x.square(0, 5), one[1]);
            due.is("with water", x.square(1, 5), one[0]);
        }
    }

    private static void squareAsked() {
        due.says("9 its FARM (NONE), 10 its WORK (NONE)");
        SeaLand x = land(0, 3, -7, 2, 9);
        due.whats("square", 10, n -> x.square(0, n));
        x.farm(1, 1);
        x.farm(0, 0);
        x.mill(3, 4, 1, false);
        x.mill(2, 3, 1, true);
        x.fill(0, 8, 77);
        due.says("Of a SQUARE what 0 1 LAND, 0 SEA; 1 HEIGHT, 2 SOIL, 3 DITCH, 4 WATER, 5 SALT, 6 LEVEL, 7 DRY, 8 WET");
        int[] want = {1, -7, 2, 9, 8, 77, 1, 0, 0, 1, NONE};
        for (int what = 0; what <= 10; what++) {
            due.is("what " + what, x.square(0, what), want[what]);
        }
        due.is("farm 0", x.square(1, 9), 0);
        due.is("no farm", x.square(2, 9), NONE);
        due.is("work 1", x.square(2, 10), 1);
        due.is("work 0", x.square(3, 10), 0);
    }
}
