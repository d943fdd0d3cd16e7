/** Promises 1, 4 to 9, 19, 20: the land, the sky, and the hours as far as they need no works. */
public final class GroundTest {
    private static final Due due = new Due();

    public static void main(String[] args) {
        newObject();
        land();
        fill();
        tideAndStorms();
        weather();
        windWithoutNumber();
        hours();
        ditches();
        days();
        squareOf();
        due.end();
    }

    private static void newObject() {
        SeaLand x = new SeaLand();
        for (int s = 0; s < 96; s++) {
            due.is("new square 0", x.square(s, 0), 0);
            due.is("new square 6", x.square(s, 6), 0);
            due.none("new square 9", x.square(s, 9));
            due.none("new square 10", x.square(s, 10));
        }
        for (int what = 0; what <= 17; what++) {
            due.is("new count " + what, x.count(what), 0);
        }
        due.none("count(-1)", x.count(-1));
        due.none("count(18)", x.count(18));
        due.none("new fault", x.fault());
    }

    private static void land() {
        SeaLand x = new SeaLand();
        due.is("land", x.land(13, 26, -5, 2, 7), 4);
        due.is("land over", x.land(27, 14, 300, 0, 20), 2);
        due.is("13", x.square(13, 1), -5);
        due.is("13 soil", x.square(13, 2), 2);
        due.is("14", x.square(14, 1), 300);
        due.is("27 ditch", x.square(27, 3), 20);
        due.is("corners the other way", x.land(95, 82, 0, 1, 0), 4);
        due.is("corners up and right", x.land(72, 61, 0, 1, 0), 4);
        due.is("60 is land", x.square(60, 0), 1);
        due.is("73 is land", x.square(73, 0), 1);
        due.is("62 is sea", x.square(62, 0), 0);
        x.fill(13, 40, 9);
        due.is("told", x.count(16), 40);
        due.is("land again", x.land(13, 13, 1, 1, 1), 0);
        due.is("without water", x.square(13, 4), 0);
        due.is("without salt", x.square(13, 5), 0);
        due.is("told less", x.count(16), 0);
        due.wrongIndex("land from", () -> x.land(-1, 0, 999, 0, 0));
        due.wrongIndex("land to", () -> x.land(0, 96, 0, 0, 0));
        due.wrongNumber("height low", () -> x.land(0, 0, -901, 0, 0));
        due.wrongNumber("height high", () -> x.land(0, 0, 301, 0, 0));
        due.wrongNumber("soil", () -> x.land(0, 0, 0, 3, 0));
        due.wrongNumber("soil below", () -> x.land(0, 0, 0, -1, 0));
        due.wrongNumber("ditch", () -> x.land(0, 0, 0, 0, 21));
        due.wrongNumber("ditch below", () -> x.land(0, 0, 0, 0, -1));
        due.is("nothing came", x.square(0, 0), 0);
        due.is("edges", x.land(0, 0, -900, 0, 0), 1);
        x.hours(1);
        due.wrongState("late", () -> x.land(0, 0, 0, 0, 0));
        due.wrongNumber("late and wrong", () -> x.land(0, 0, 0, 0, 21));
        due.is("height stays", x.square(0, 1), -900);
    }

    private static void fill() {
        SeaLand x = new SeaLand();
        x.land(5, 5, -30, 0, 0);
        due.is("fill", x.fill(5, 900, 100000), true);
        due.is("water", x.square(5, 4), 900);
        due.is("salt", x.square(5, 5), 100000);
        due.is("level", x.square(5, 6), 870);
        due.is("count water", x.count(4), 900);
        due.is("count salt", x.count(5), 100000);
        due.is("less", x.fill(5, 100, 1), true);
        due.is("told", x.count(16), 100);
        due.is("sea", x.fill(6, 1, 1), false);
        due.is("sea has none", x.square(6, 4), 0);
        due.wrongIndex("no square", () -> x.fill(96, -1, 0));
        due.wrongNumber("water", () -> x.fill(6, 901, 0));
        due.wrongNumber("water below", () -> x.fill(5, -1, 0));
        due.wrongNumber("salt", () -> x.fill(5, 0, 100001));
        due.wrongNumber("salt below", () -> x.fill(5, 0, -1));
        x.hours(3);
        due.is("later too", x.fill(5, 0, 0), true);
        due.is("told less", x.count(16), 0);
    }

    private static void tideAndStorms() {
        SeaLand x = new SeaLand();
        x.tide(0, 400);
        x.tide(11, -400);
        due.is("0", x.sky(0, 0), 400);
        due.is("39996", x.sky(39996, 0), 400);
        due.is("11", x.sky(11, 0), -400);
        due.is("1", x.sky(1, 0), 0);
        due.is("storm", x.storm(11, 12, 500), 1);
        due.is("10", x.sky(10, 0), 0);
        due.is("11", x.sky(11, 0), 100);
        due.is("12", x.sky(12, 0), 900);
        due.is("13", x.sky(13, 0), 0);
        for (int i = 2; i <= 20; i++) {
            due.is("storm " + i, x.storm(40000, 40000, 1), i);
        }
        due.is("all at the last hour", x.sky(40000, 0), 19);
        due.none("a 21st", x.storm(0, 0, 1));
        due.wrongNumber("a wrong 21st", () -> x.storm(0, 0, 0));
        due.wrongNumber("from", () -> x.storm(-1, 0, 1));
        due.wrongNumber("to", () -> x.storm(0, 40001, 1));
        due.wrongNumber("back", () -> x.storm(5, 4, 1));
        due.wrongNumber("more", () -> x.storm(0, 0, 501));
        due.wrongNumber("tide", () -> x.tide(-1, 0));
        due.wrongNumber("tide 12", () -> x.tide(12, 0));
        due.wrongNumber("level", () -> x.tide(0, -401));
        due.wrongNumber("level high", () -> x.tide(0, 401));
        due.is("stays", x.sky(0, 0), 400);
        due.nothingSuch("sky", () -> x.sky(-1, 0));
        due.nothingSuch("sky late", () -> x.sky(40001, 0));
        due.nothingSuch("what", () -> x.sky(0, 3));
        due.nothingSuch("what below", () -> x.sky(0, -1));
        x.hours(12);
        due.is("the sea's level", x.square(3, 6), 900);
    }

    private static void weather() {
        SeaLand x = new SeaLand();
        due.is("first", x.weather(true, 40000, 20), 1);
        due.is("at the end", x.sky(40000, 2), 20);
        due.is("ahead of it", x.sky(39999, 2), 0);
        due.is("second", x.weather(true, 10, 3), 2);
        due.is("a while", x.sky(39999, 2), 3);
        due.is("anew", x.weather(true, 10, 4), 3);
        due.is("the latest", x.sky(11, 2), 4);
        due.is("wind apart", x.weather(false, 10, 9), 1);
        due.is("wind", x.sky(10, 1), 9);
        due.is("no wind", x.sky(9, 1), 0);
        for (int i = 4; i <= 60; i++) {
            due.is("telling " + i, x.weather(true, 20, i % 20), i);
        }
        due.none("a 61st", x.weather(true, 20, 19));
        due.is("not told", x.sky(20, 2), 0);
        due.is("wind still", x.weather(false, 0, 1), 2);
        due.wrongNumber("a wrong 61st", () -> x.weather(true, 20, 21));
        due.wrongNumber("rain", () -> x.weather(true, 0, -1));
        due.wrongNumber("wind low", () -> x.weather(false, 0, -2));
        due.wrongNumber("wind high", () -> x.weather(false, 0, 10));
        due.wrongNumber("hour", () -> x.weather(false, -1, 0));
        due.wrongNumber("hour late", () -> x.weather(false, 40001, 0));
    }

    private static void windWithoutNumber() {
        SeaLand x = new SeaLand();
        x.weather(false, 100, SeaLand.NONE);
        due.is("none there", x.sky(100, 1), 0);
        x.weather(false, 200, 6);
        due.is("behind", x.sky(199, 1), 6);
        due.is("ahead of all", x.sky(99, 1), 0);
        x.weather(false, 50, 8);
        due.is("ahead", x.sky(150, 1), 8);
        x.weather(false, 60, 2);
        due.is("the nearer one", x.sky(150, 1), 6);
        x.weather(false, 150, SeaLand.NONE);
        due.is("the second looks past the first", x.sky(160, 1), 6);
        x.weather(false, 200, 1);
        due.is("both past each other", x.sky(100, 1), 2);
        due.is("both past each other", x.sky(199, 1), 2);
        x.weather(false, 60, SeaLand.NONE);
        due.is("the latest telling alone", x.sky(100, 1), 8);
        x.weather(false, 100, 0);
        due.is("a number again", x.sky(100, 1), 0);
        due.is("60 has 50 and 100", x.sky(70, 1), 8);
        due.is("150 has 100 and 200", x.sky(150, 1), 1);

        SeaLand y = new SeaLand();
        y.weather(false, 5, 9);
        y.weather(false, 5, SeaLand.NONE);
        due.is("its own earlier number is none", y.sky(6, 1), 0);
        y.weather(false, 40000, 4);
        due.is("the last hour", y.sky(6, 1), 4);
        y.weather(false, 30, 2);
        y.weather(false, 35, 8);
        due.is("the nearest behind, not the latest told", y.sky(6, 1), 2);
        y.weather(false, 4, 3);
        y.weather(false, 0, 7);
        due.is("the nearest ahead, not the latest told", y.sky(6, 1), 3);

        SeaLand z = new SeaLand();
        z.weather(false, 200, 6);
        z.weather(false, 100, SeaLand.NONE);
        due.is("told first", z.sky(100, 1), 6);
        for (int i = 3; i <= 60; i++) {
            due.is("telling", z.weather(false, 300 + i, i % 2 == 0 ? SeaLand.NONE : i % 10), i);
        }
        due.is("of sixty", z.sky(100, 1), 6);
        due.is("of sixty", z.sky(354, 1), 5);
        due.is("of sixty", z.sky(40000, 1), 9);
        due.is("of sixty", z.sky(359, 1), 9);
    }

    private static void hours() {
        SeaLand x = new SeaLand();
        due.is("none", x.hours(0), 0);
        due.is("one", x.hours(1), 1);
        due.wrongNumber("241", () -> x.hours(241));
        due.wrongNumber("-1", () -> x.hours(-1));
        due.is("241", x.hours(240), 241);
        due.is("day", x.count(1), 10);
        for (int i = 0; i < 165; i++) {
            x.hours(240);
        }
        due.is("39841", x.count(0), 39841);
        due.is("as far as it goes", x.hours(240), 40000);
        due.is("no further", x.hours(1), 40000);
        due.is("last day", x.count(1), 1666);
    }

    private static void ditches() {
        SeaLand x = new SeaLand();
        x.land(0, 2, 0, 0, 20);
        x.fill(0, 30, 400);
        x.fill(1, 10, 200);
        x.hours(1);
        due.is("all at once 0", x.square(0, 4), 20);
        due.is("all at once 1", x.square(1, 4), 15);
        due.is("all at once 2", x.square(2, 4), 5);
        due.is("salt 0", x.square(0, 5), 300);
        due.is("salt 1", x.square(1, 5), 250);
        due.is("salt 2", x.square(2, 5), 50);

        SeaLand y = new SeaLand();
        y.land(0, 38, 0, 0, 20);
        y.land(0, 38, 0, 0, 3);
        y.fill(13, 100, 110);
        y.hours(1);
        due.is("the least number", y.square(1, 4), 3);
        due.is("the least number alone", y.square(12, 4) + y.square(14, 4) + y.square(25, 4), 0);
        due.is("its salt", y.square(1, 5), 3);

        SeaLand z = new SeaLand();
        z.land(11, 12, 0, 0, 20);
        z.fill(11, 50, 0);
        z.hours(1);
        due.is("10 is beside 11, not more than the ditch", z.square(10, 4), 20);
        due.is("11", z.square(11, 4), 30);
        due.is("23 has a greater number", z.square(23, 4), 0);

        SeaLand w = new SeaLand();
        w.land(11, 11, 0, 0, 20);
        w.land(12, 12, 0, 0, 20);
        w.land(24, 24, -100, 0, 0);
        w.land(13, 13, -90, 0, 5);
        w.fill(12, 2, 0);
        w.fill(11, 50, 0);
        w.hours(1);
        due.is("no ditch, nothing", w.square(24, 4), 0);
        due.is("not more than there is", w.square(13, 4), 2);
        due.is("11 is not beside 12", w.square(11, 4), 50);

        flows(12, 11, 0);
        flows(11, 12, 0);
        flows(13, 12, 5);
        flows(12, 13, 5);
        flows(1, 0, 5);
        flows(10, 11, 5);
        flows(11, 10, 5);
        flows(0, 12, 5);
        flows(12, 0, 5);
        flows(83, 95, 5);
        flows(95, 83, 5);
        flows(95, 94, 5);
        flows(84, 85, 5);
        flows(50, 61, 0);
        flows(50, 63, 0);

        SeaLand v = new SeaLand();
        v.land(0, 1, 0, 0, 20);
        v.fill(0, 3, 0);
        v.hours(1);
        due.is("half of 3", v.square(1, 4), 1);
        v.hours(1);
        due.is("half of 1", v.square(0, 4), 2);
    }

    private static void flows(int from, int to, int want) {
        SeaLand x = new SeaLand();
        x.land(from, from, 0, 0, 9);
        x.land(to, to, 0, 0, 9);
        x.fill(from, 10, 0);
        x.hours(1);
        due.is("from " + from + " to " + to, x.square(to, 4), want);
        due.is("from " + from, x.square(from, 4), 10 - want);
        SeaLand y = new SeaLand();
        y.land(from, from, 0, 0, 0);
        y.land(to, to, 0, 0, 9);
        y.fill(from, 10, 0);
        y.hours(1);
        due.is("no ditch at " + from, y.square(to, 4), 0);
        SeaLand z = new SeaLand();
        z.land(from, from, 0, 0, 1);
        z.land(to, to, 0, 0, 9);
        z.fill(from, 10, 0);
        z.hours(1);
        due.is("a ditch of 1 at " + from, z.square(to, 4), want == 0 ? 0 : 1);
    }

    private static void days() {
        SeaLand x = new SeaLand();
        x.land(0, 0, 0, 2, 0);
        x.land(1, 1, 0, 1, 0);
        x.land(2, 2, 0, 0, 0);
        x.fill(2, 0, 1050);
        x.hours(71);
        due.is("peat stands", x.square(0, 1), 0);
        due.is("dry", x.square(0, 7), 2);
        x.hours(1);
        due.is("peat sinks", x.square(0, 1), -1);
        due.is("salt goes by hundredths", x.square(2, 5), 1020);
        x.hours(168);
        due.is("peat at nine days", x.square(0, 1), -3);
        due.is("clay at ten days", x.square(1, 1), -1);
        due.is("sand never", x.square(2, 1), 0);
        due.is("ten days", x.square(2, 7), 10);
        x.fill(0, 1, 100);
        x.hours(24);
        due.is("dry no more", x.square(0, 7), 0);
        due.is("wet", x.square(0, 8), 1);
        due.is("salt stays in water", x.square(0, 5), 100);
        due.is("others are not wet", x.square(1, 8), 0);
        x.fill(2, 0, 10000);
        due.is("salt of all", x.count(5), 10100);
        x.hours(24);
        due.is("a hundredth", x.square(2, 5), 9900);
        x.fill(2, 0, 99);
        x.hours(24);
        due.is("less than a hundred stay", x.square(2, 5), 99);
        due.is("clay at thirteen", x.square(1, 1), -1);
        x.weather(true, 0, 2);
        x.hours(24);
        due.is("rain", x.square(1, 4), 48);
        due.is("rain counted", x.count(13), 3 * 48);
        due.is("balance", x.count(4), x.count(13) + x.count(16));
        due.is("no more dry", x.square(1, 7), 0);
    }

    private static void squareOf() {
        SeaLand x = new SeaLand();
        x.land(7, 7, -4, 1, 3);
        x.mill(7, 8, 1, false);
        x.farm(7, 7);
        int[] want = {1, -4, 1, 3, 0, 0, -4, 0, 0, 0, 0};
        for (int what = 0; what <= 10; what++) {
            due.is("square(7, " + what + ")", x.square(7, what), want[what]);
        }
        due.nothingSuch("what 11", () -> x.square(7, 11));
        due.nothingSuch("what -1", () -> x.square(7, -1));
        due.wrongIndex("no square", () -> x.square(96, 11));
        due.wrongIndex("no square", () -> x.square(-1, 0));
    }
}
