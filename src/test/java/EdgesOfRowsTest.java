/** The edges that the document names of the rows, the image and the counts: promises 50 to 55 and their terms. */
public final class EdgesOfRowsTest {
    private static final int NONE = SeaLand.NONE;
    private static final Due due = new Due();

    public static void main(String[] args) {
        rowsAtMost();
        rowsAsked();
        rowsOfLevels();
        rowsOfTellings();
        rowsThatStay();
        tearing();
        checking();
        keeping();
        goingBack();
        imageOfAll();
        whatStays();
        counts();
        due.end();
    }

    private static SeaLand withLand() {
        SeaLand x = new SeaLand();
        x.land(13, 16, 0, 0, 0);
        return x;
    }

    private static void rowsAtMost() {
        due.says("the LEVELS of all SQUARES at the end of each of the latest hours, 24 at most");
        SeaLand x = withLand();
        x.weather(true, 0, 1);
        due.is("none at first", x.count(17), 0);
        x.hours(0);
        due.is("no hours", x.count(17), 0);
        for (int hour = 1; hour <= 60; hour++) {
            x.hours(1);
            int rows = Math.min(24, hour);
            due.is("rows at " + hour, x.count(17), rows);
            due.is("the oldest", x.row(0, 13), hour - rows + 1);
            due.is("the latest", x.row(rows - 1, 13), hour);
            due.none("they are right", x.check());
        }
        x.hours(240);
        due.is("many at once", x.count(17), 24);
        due.is("the oldest", x.row(0, 13), 277);
        due.is("the latest", x.row(23, 13), 300);
    }

    private static void rowsAsked() {
        due.says("The number of a SQUARE in ROW i (from 0 on). NoSuchElementException: there is none such");
        SeaLand x = withLand();
        for (int none : new int[] {0, 1, -1, 24, Integer.MAX_VALUE, Integer.MIN_VALUE}) {
            due.nothingSuch("no rows: row " + none, () -> x.row(none, 0));
            due.nothingSuch("no rows: tear " + none, () -> x.tear(none, 0, 1));
            due.wrongIndex("no square is told first", () -> x.row(none, 96));
            due.wrongIndex("no square is told first", () -> x.tear(none, -1, 1));
        }
        for (int hours : new int[] {1, 22, 1, 5}) {
            x.hours(hours);
            int rows = x.count(17);
            due.whats("row", rows - 1, i -> x.row(i, 0));
            due.says("A number is TORN by a mask: what it is then. NoSuchElementException likewise");
            due.whats("tear", rows - 1, i -> x.tear(i, 0, 0));
        }
        due.indices("row", 96, s -> x.row(0, s));
        due.indices("tear", 96, s -> x.tear(0, s, 0));
    }

    private static void rowsOfLevels() {
        due.says("ROWS: the LEVELS of all SQUARES");
        SeaLand x = new SeaLand();
        x.land(0, 0, -900, 2, 0);
        x.land(95, 95, 300, 0, 0);
        x.fill(95, 900, 0);
        x.tide(1, -400);
        x.storm(2, 2, 500);
        x.hours(2);
        due.is("the lowest", x.row(0, 0), -900);
        due.is("the highest", x.row(0, 95), 1200);
        due.is("the sea of hour 1", x.row(0, 50), -400);
        due.is("the sea of hour 2", x.row(1, 50), 500);
        x.hours(70);
        due.is("sunk at the end of the third day", x.row(23, 0), -901);
        due.is("not an hour earlier", x.row(22, 0), -900);
        for (int s = 0; s < 96; s++) {
            due.is("the latest row is the level of now", x.row(23, s), x.square(s, 6));
        }
    }

    interface Telling {
        void tell(SeaLand x);
    }

    /** Two rows, then a call: how many rows there are behind it. */
    private static void rowsBehind(String call, boolean gone, Telling telling) {
        SeaLand x = new SeaLand();
        x.land(13, 18, 0, 0, 0);
        x.dike(13, 12, 14, 5);
        x.layer(0, 50, 5);
        x.mill(15, 16, 5, true);
        x.sluice(16, 4, 5);
        x.dike(17, 5, 18, 5);
        x.contract(0, 1, 1, 0);
        x.contract(0, 1, 1, 0);
        x.measure(0, 10);
        x.measure(1, 9);
        x.coin(100);
        x.farm(14, 14);
        x.settler(1, 1, 1, 1, false, false, 1);
        x.storm(1, 1, 1);
        x.hours(1);
        x.keep();
        x.hours(1);
        due.is("the second dike is a breach", x.work(3, 0), 1);
        due.is("rows ahead", x.count(17), 2);
        telling.tell(x);
        due.is("rows behind " + call, x.count(17), gone ? 0 : 2);
        due.none("check behind " + call, x.check());
        x.hours(1);
        due.is("an hour behind " + call, x.count(17), gone ? 1 : 3);
    }

    private static void rowsOfTellings() {
        due.says("since something was told last of LAND, WATER, SALT, WORKS, TIDE, STORMS, WIND or RAIN");
        rowsBehind("fill", true, x -> x.fill(13, 1, 1));
        rowsBehind("tide", true, x -> x.tide(0, 1));
        rowsBehind("storm", true, x -> x.storm(9, 9, 1));
        rowsBehind("wind", true, x -> x.weather(false, 9, 1));
        rowsBehind("rain", true, x -> x.weather(true, 9, 1));
        rowsBehind("dike", true, x -> x.dike(14, 2, 13, 1));
        rowsBehind("layer", true, x -> x.layer(0, 1, 1));
        rowsBehind("mill", true, x -> x.mill(14, 2, 1, false));
        rowsBehind("engine", true, x -> x.mill(14, 2, 1, true));
        rowsBehind("sluice", true, x -> x.sluice(14, 2, 1));
        rowsBehind("coal", true, x -> x.coal(1, 1));
        rowsBehind("shut", true, x -> x.shut(3));
        due.says("(also by a LAYER that a CONTRACT brings, by what is turned, and by going back to THE IMAGE; "
                + "then there are none, till hours go by)");
        rowsBehind("a contract's layer", true, x -> x.pay(0));
        rowsBehind("a contract without a layer", false, x -> x.pay(1));
        rowsBehind("turn of an engine", true, x -> x.turn(1, true));
        rowsBehind("turn of a sluice", true, x -> x.turn(2, true));
        rowsBehind("back", true, SeaLand::back);
        SeaLand y = withLand();
        y.hours(0);
        y.land(13, 13, 1, 1, 1);
        due.is("land at hour 0", y.count(17), 0);
    }

    private static void rowsThatStay() {
        due.says("since something was told last of LAND, WATER, SALT, WORKS, TIDE, STORMS, WIND or RAIN");
        rowsBehind("fill of the sea", false, x -> x.fill(0, 1, 1));
        rowsBehind("no dike", false, x -> x.dike(13, 12, 14, 1));
        rowsBehind("no mill", false, x -> x.mill(13, 14, 1, false));
        rowsBehind("no sluice", false, x -> x.sluice(13, 12, 1));
        rowsBehind("no layer", false, x -> x.layer(3, 1, 1));
        rowsBehind("keep", false, SeaLand::keep);
        rowsBehind("feed and found", false, x -> Due.found(x, "dues 1"));
        rowsBehind("propose and close", false, x -> {
            Due.propose(x, "dues 1");
            x.close();
        });
        rowsBehind("settler, farm, choose, sow, come, harvest", false, x -> {
            x.settler(1, 1, 1, 1, false, false, 1);
            x.farm(15, 15);
            x.choose(2);
            x.sow(0, 1);
            x.come(0);
            x.harvest();
        });
        rowsBehind("coin, contract, measure", false, x -> {
            x.coin(1);
            x.contract(0, 1, 1, 1);
            x.measure(1, 9);
        });
        rowsBehind("job, jobs and plans", false, x -> {
            x.job(1, 1, 1, 1);
            x.order(1, 0);
            x.jobs();
            x.lifts(1, 1, 1, 1);
            x.soonest(3, 1, 1);
            x.levels(0, 1);
        });
        rowsBehind("what is asked", false, Seen::all);
        SeaLand y = withLand();
        for (int i = 0; i < 20; i++) {
            y.storm(0, 0, 1);
        }
        for (int i = 0; i < 60; i++) {
            y.weather(true, 0, 1);
            y.weather(false, 0, 1);
        }
        y.hours(2);
        y.storm(0, 0, 1);
        y.weather(true, 0, 1);
        y.weather(false, 0, 1);
        due.is("what does not come any more", y.count(17), 2);
        due.is("back without an image", y.back(), false);
        due.is("is no going back", y.count(17), 2);
    }

    private static void tearing() {
        due.says("A number of a ROW may be TORN: exclusive or with a mask");
        SeaLand x = withLand();
        x.fill(13, 5, 0);
        x.hours(3);
        for (int mask : new int[] {0, 1, -1, Integer.MIN_VALUE, Integer.MAX_VALUE, 7}) {
            int was = x.row(1, 13);
            due.is("torn by " + mask, x.tear(1, 13, mask), was ^ mask);
            due.is("it is so", x.row(1, 13), was ^ mask);
            due.is("another row is not", x.row(0, 13), 5);
            due.is("another square is not", x.row(1, 14), 0);
            due.is("the land is not", x.square(13, 6), 5);
            due.is("mended", x.tear(1, 13, mask), was);
        }
        x.hours(1);
        due.is("later hours go by the land", x.row(3, 13), 5);
    }

    private static void checking() {
        due.says("CHECK: the first number (by hours, then by SQUARES) that is not what these same hours bring from what was there "
                + "as the first of them began; none");
        due.says("CHECK: 96 times the ROW and the SQUARE; NONE");
        due.none("no rows", new SeaLand().check());
        SeaLand x = withLand();
        x.hours(30);
        due.none("as they were", x.check());
        int[][] tears = {{23, 95}, {23, 0}, {22, 95}, {5, 50}, {5, 49}, {4, 95}, {0, 95}, {0, 1}, {0, 0}};
        for (int[] one : tears) {
            x.tear(one[0], one[1], 4);
            due.is("the first", x.check(), 96 * one[0] + one[1]);
        }
        for (int i = tears.length - 1; i > 0; i--) {
            x.tear(tears[i][0], tears[i][1], 4);
            due.is("the next", x.check(), 96 * tears[i - 1][0] + tears[i - 1][1]);
        }
        x.hours(23);
        due.is("it moves up to the first row", x.check(), 95);
        x.hours(1);
        due.none("and out", x.check());
        x.tear(3, 3, 0);
        due.none("a mask of 0 tears nothing", x.check());
        x.tear(3, 3, 1);
        x.keep();
        x.back();
        due.none("going back, there are none", x.check());
    }

    private static void keeping() {
        due.says("THE IMAGE is kept (in place of one before): true; false, and nothing happens, at HOUR 0");
        SeaLand x = withLand();
        due.is("at hour 0", x.keep(), false);
        due.is("none was kept", x.back(), false);
        x.hours(1);
        due.is("none was kept", x.back(), false);
        due.is("at hour 1", x.keep(), true);
        x.hours(4);
        due.is("in its place", x.keep(), true);
        x.hours(4);
        due.is("back", x.back(), true);
        due.is("the latter", x.count(0), 5);
    }

    private static void goingBack() {
        due.says("One goes back to THE IMAGE: true; false, and nothing happens, if none was kept, or its HOUR is not less or equal");
        SeaLand x = withLand();
        x.fill(13, 7, 70);
        x.hours(3);
        x.keep();
        due.is("at the same hour", x.back(), true);
        due.is("the same", x.count(0), 3);
        x.fill(13, 9, 90);
        due.is("at the same hour, otherwise", x.back(), true);
        due.is("water of then", x.square(13, 4), 7);
        due.is("salt of then", x.square(13, 5), 70);
        due.is("16 of then", x.count(16), 7);
        x.hours(1);
        due.is("an hour on", x.back(), true);
        due.is("the hour of then", x.count(0), 3);
        x.hours(240);
        due.is("and any number of times", x.back(), true);
        due.is("the hour of then", x.count(0), 3);
        for (int i = 0; i < 170; i++) {
            x.hours(240);
        }
        due.is("from the last hour", x.back(), true);
        due.is("the hour of then", x.hours(0), 3);
    }

    private static void imageOfAll() {
        due.says("THE IMAGE (one) of all LAND, WORKS, HOUR, what is counted of water, RAIN, WIND, TIDE, STORMS");
        SeaLand x = new SeaLand();
        x.land(0, 95, -7, 2, 1);
        for (int i = 0; i < 30; i++) {
            x.mill(i, i + 12, 7, true);
            x.coal(i, 100);
            x.turn(i, true);
        }
        for (int i = 0; i < 60; i++) {
            x.weather(true, i, i % 21);
            x.weather(false, i, i % 10);
        }
        for (int i = 0; i < 20; i++) {
            x.storm(i, i + 3, i + 1);
        }
        x.hours(40);
        x.keep();
        String then = withoutRows(Seen.all(x));
        x.hours(100);
        for (int i = 0; i < 30; i++) {
            x.turn(i, false);
        }
        x.fill(95, 1, 1);
        x.back();
        due.is("thirty works, sixty tellings of each, twenty storms", withoutRows(Seen.all(x)).equals(then), true);
        due.none("no storm more", x.storm(0, 0, 1));
        due.none("no rain more", x.weather(true, 0, 1));
        due.none("no wind more", x.weather(false, 0, 1));
        due.tooMany("no work more", () -> x.mill(50, 51, 1, true));
    }

    private static void whatStays() {
        due.says("THE IMAGE (one) of all LAND, WORKS, HOUR, what is counted of water, RAIN, WIND, TIDE, STORMS may be kept (not at HOUR 0), "
                + "and gone back to: all of these are as they were then; the law, people, FARMS, CONTRACTS, JOBS and coin stay");
        SeaLand x = new SeaLand();
        x.land(12, 23, -20, 2, 3);
        x.dike(12, 0, 13, 5);
        x.layer(0, 40, 5);
        x.mill(15, 16, 5, true);
        x.coal(1, 50);
        x.turn(1, true);
        x.sluice(17, 5, 5);
        x.weather(true, 0, 1);
        x.weather(false, 3, 5);
        x.hours(30);
        x.keep();
        String then = Seen.all(x);
        x.fill(13, 800, 800);
        x.tide(1, 77);
        x.storm(31, 60, 300);
        x.weather(true, 30, 9);
        x.weather(false, 0, 9);
        x.turn(1, false);
        x.turn(2, true);
        x.coal(1, 5);
        x.layer(0, 1, 1);
        x.mill(19, 20, 5, false);
        x.hours(50);
        due.is("a breach", x.count(3), 1);
        due.is("otherwise", Seen.all(x).equals(then), false);
        x.back();
        due.is("no rows", x.count(17), 0);
        due.is("all as it was then, but for the rows", withoutRows(Seen.all(x)).equals(withoutRows(then)), true);
        Due.found(x, "dues 3;level 4 4 in 0 95");
        x.settler(20, 2, 50, 1, true, true, 5);
        x.farm(18, 19);
        x.choose(1);
        x.sow(0, 2);
        x.coin(77);
        x.contract(0, 1, 1, 3);
        x.measure(0, 10);
        x.job(0, 1, 1, 9);
        Due.propose(x, "out");
        x.come(0);
        x.harvest();
        x.come(0);
        x.back();
        due.is("law", x.count(6), 2);
        due.is("settlers", x.count(7), 1);
        due.is("holders", x.count(8), 1);
        due.is("farms", x.count(9), 1);
        due.is("its square", x.square(18, 9), 0);
        due.is("crop", x.sow(0, 2), false);
        due.is("coin", x.count(10), 80);
        due.is("contracts", x.count(12), 1);
        due.is("measured", x.yards(0, true), 13);
        due.is("jobs", x.order(0, NONE), 9);
        due.wrongState("the vote goes on", x::propose);
        due.is("it came", x.come(0), false);
        due.none("harvest", x.harvest());
        due.is("a gain of two squares", x.who(0, 2), 100);
    }

    private static String withoutRows(String seen) {
        return seen.replaceAll("row \\d+ \\d+=-?\\d+\n", "").replaceAll("count 17=\\d+\n", "");
    }

    private static void counts() {
        due.says("NONE for another what");
        SeaLand x = new SeaLand();
        for (int none : new int[] {-1, -2, 18, 19, Integer.MAX_VALUE, Integer.MIN_VALUE}) {
            due.none("count " + none, x.count(none));
        }
        due.says("0 HOUR, 1 DAY, 2 WORKS, 3 BREACHES, 4 WATER of all LAND, 5 SALT of all, 6 LINES in force, 7 SETTLERS, 8 HOLDERS, "
                + "9 FARMS, 10 the board's COIN, 11 arrears of all, 12 CONTRACTS, 13 RAIN in all (units), 14 what came in from the sea in all, "
                + "15 what went to the sea, 16 WATER that fill() and land() told more than was there (less: below 0), 17 ROWS");
        Due.found(x, "dues 9;dues 1;mark 1");
        x.land(12, 23, -10, 0, 0);
        x.dike(12, 0, 13, 5);
        x.dike(14, 2, 13, 5);
        x.layer(1, 20, 9);
        x.mill(16, 4, 3, true);
        x.coal(2, 9);
        x.turn(2, true);
        x.fill(16, 50, 600);
        x.fill(13, 30, 0);
        x.storm(1, 1, 120);
        x.weather(true, 0, 1);
        for (int i = 0; i < 4; i++) {
            x.settler(1, 1, 0, 0, false, false, 1);
            x.farm(17 + i, 17 + i);
        }
        x.choose(2);
        x.coin(5);
        x.contract(1, 1, 1, 1);
        x.harvest();
        x.hours(1);
        // Both dikes break: (120 - 21) * 4 / 120, then (120 - 24) * 4 / 120; the engine lifts 3 of 51 to the sea.
        int[] want = {1, 0, 3, 2, 80 + 12 + 6 - 3, 600 + 180 - 29, 3, 4, 2, 4, 5, 20, 1, 12, 6, 3, 80, 1};
        for (int what = 0; what <= 17; what++) {
            due.is("count " + what, x.count(what), want[what]);
        }
        x.hours(60);
        due.is("water of all", x.count(4), sum(x, 4));
        due.is("salt of all", x.count(5), sum(x, 5));
        due.is("the balance", x.count(4), x.count(13) + x.count(14) - x.count(15) + x.count(16));
    }

    private static int sum(SeaLand x, int what) {
        int all = 0;
        for (int s = 0; s < 96; s++) {
            all += x.square(s, what);
        }
        return all;
    }
}
