/** The edges that the document names of the works: promises 10 to 18 and their terms. */
public final class EdgesOfWorksTest {
    private static final int NONE = SeaLand.NONE;
    private static final Due due = new Due();

    public static void main(String[] args) {
        dikes();
        limits();
        layers();
        undersides();
        heads();
        seepAsked();
        breakings();
        widths();
        runs();
        shutting();
        mills();
        engines();
        coals();
        sluices();
        turning();
        thirty();
        workAsked();
        kinds();
        orderOfAnHour();
        changedSea();
        due.end();
    }

    /** A dike on 13 between the sea at 12 and the land at 14. */
    private static SeaLand withDike(int dikeHeight, int landHeight, int limit) {
        SeaLand x = new SeaLand();
        x.land(13, 13, dikeHeight, 0, 0);
        x.land(14, 14, landHeight, 0, 0);
        x.dike(13, 12, 14, limit);
        return x;
    }

    private static void dikes() {
        due.says("A DIKE, from a SEA SQUARE to a LAND SQUARE, both beside its own");
        int[] around = {28, 39, 41, 52};
        for (int sea = 0; sea < 96; sea++) {
            SeaLand x = new SeaLand();
            x.land(0, 95, 0, 0, 0);
            SeaLand y = new SeaLand();
            y.land(40, 40, 0, 0, 0);
            y.land(28, 28, 0, 0, 0);
            boolean beside = sea == 39 || sea == 41 || sea == 52;
            due.is("land in place of sea " + sea, x.dike(40, sea, 28, 5), NONE);
            due.is("sea at " + sea, y.dike(40, sea, 28, 5), beside ? 0 : NONE);
        }
        for (int inland = 0; inland < 96; inland++) {
            SeaLand x = new SeaLand();
            x.land(40, 40, 0, 0, 0);
            due.none("sea in place of land " + inland, x.dike(40, 39, inland, 5));
            SeaLand y = new SeaLand();
            y.land(36, 38, 0, 0, 0);
            y.land(40, 95, 0, 0, 0);
            y.land(0, 35, 0, 0, 0);
            boolean beside = inland == 28 || inland == 41 || inland == 52;
            due.is("land at " + inland, y.dike(40, 39, inland, 5), beside ? 0 : NONE);
        }
        for (int sea : around) {
            for (int inland : around) {
                SeaLand x = new SeaLand();
                x.land(40, 40, 0, 0, 0);
                x.land(inland, inland, 0, 0, 0);
                due.is("from " + sea + " to " + inland, x.dike(40, sea, inland, 5), sea == inland ? NONE : 0);
            }
        }
        due.says("A DIKE without LAYERS: its number; NONE, and it does not come, if its SQUARE has a WORK, or is no LAND, "
                + "or the others are not as told");
        SeaLand z = new SeaLand();
        z.land(13, 14, 0, 0, 0);
        due.none("no land", z.dike(12, 0, 13, 5));
        due.is("none came", z.count(2), 0);
        due.none("none is there", z.square(12, 10));
        due.is("the first", z.dike(13, 12, 14, 5), 0);
        due.none("a work there", z.dike(13, 12, 14, 5));
        due.is("one", z.count(2), 1);
        due.is("without layers", z.work(0, 6), 0);
        due.is("the next number", z.dike(14, 15, 13, 5), 1);
        due.indices("square", 96, s -> z.dike(s, 12, 14, 5));
        due.indices("sea", 96, s -> z.dike(13, s, 14, 5));
        due.indices("inland", 96, s -> z.dike(13, 12, s, 5));
        due.wrongIndex("no square, and no limit", () -> z.dike(96, 12, 14, 0));
        due.wrongIndex("no sea, and no limit", () -> z.dike(13, 96, 14, 0));
        due.wrongIndex("no inland, and no limit", () -> z.dike(13, 12, 96, 0));
        due.is("no work came of these", z.count(2), 2);
    }

    private static void limits() {
        due.says("It BREAKS in the first hour in which SEEP is above its LIMIT (told; 1 to 1000)");
        due.numbers("limit", 1, 1000, n -> withDike(0, 0, 5).dike(14, 15, 13, n));
        due.wrongNumber("of a square that is no land", () -> new SeaLand().dike(0, 1, 2, 0));
        for (int limit : new int[] {1, 2, 10, 1000}) {
            for (int more = 0; more <= 1; more++) {
                int seep = limit + more;
                SeaLand x = withDike(-900, -900, limit);
                for (int i = 0; i < 6; i++) {
                    x.layer(0, 300, i == 0 ? 0 : 9);
                }
                // Undersides every 300 from -900 on: below 0 three layers, 10 + 1 + 1; the head makes up the rest.
                x.fill(14, 900, 0);
                x.tide(1, 0);
                due.is("no head", x.seep(0, 0), 0);
                SeaLand y = withDike(0, 0, limit);
                y.layer(0, 300, 0);
                y.layer(0, 300, 0);
                y.layer(0, 300, 0);
                y.layer(0, 300, 0);
                y.layer(0, 300, 0);
                y.layer(0, 300, 0);
                int outside = outsideFor(y, seep);
                for (int i = 0; i < outside / 500; i++) {
                    y.storm(1, 1, 500);
                }
                if (outside % 500 > 0) {
                    y.storm(1, 1, outside % 500);
                }
                y.hours(1);
                due.is("limit " + limit + " with seep " + seep, y.work(0, 0), more);
                due.is("what came", more == 1 ? outside * 4 / 120 : seep, y.work(0, 3));
            }
        }
    }

    /** The least OUTSIDE with just that SEEP: six layers of CLAY 0 and 300 THICK from 0 on. */
    private static int outsideFor(SeaLand x, int seep) {
        for (int outside = 0; outside <= 1800; outside++) {
            int under = Math.min(6, (outside + 299) / 300);
            if (outside * 10 * under / 100 == seep) {
                if (outside <= 1000) {
                    due.is("seep at " + outside, x.seep(0, outside), seep);
                }
                return outside;
            }
        }
        due.is("there is an outside for " + seep, false, true);
        return 0;
    }

    private static void layers() {
        due.says("LAYERS (at most 6, from below on): each THICK (1 to 300) and of CLAY 0 to 9");
        due.says("IllegalArgumentException: THICK or CLAY are none; ClassCastException: it is no DIKE");
        due.numbers("thick", 1, 300, n -> withDike(0, 0, 5).layer(0, n, 0));
        due.numbers("clay", 0, 9, n -> withDike(0, 0, 5).layer(0, 1, n));
        SeaLand x = withDike(0, 0, 5);
        due.says("CREST: the HEIGHT of its SQUARE and all that is THICK together");
        due.is("without layers", x.work(0, 5), 0);
        int crest = 0;
        for (int i = 1; i <= 6; i++) {
            due.is("layer", x.layer(0, i % 2 == 0 ? 300 : 1, 9), i);
            crest += i % 2 == 0 ? 300 : 1;
            due.is("crest", x.work(0, 5), crest);
        }
        due.says("A LAYER on a DIKE: how many it has; NONE, and it does not come, if it has 6, or is a BREACH");
        due.none("a 7th", x.layer(0, 1, 1));
        due.is("crest", x.work(0, 5), 903);
        due.is("six", x.work(0, 6), 6);
        due.wrongNumber("a 7th that is wrong", () -> x.layer(0, 0, 1));
        SeaLand y = withDike(0, 0, 5);
        y.layer(0, 10, 9);
        y.tide(1, 11);
        y.hours(1);
        due.is("a breach", y.work(0, 0), 1);
        due.none("on a breach", y.layer(0, 1, 1));
        y.shut(0);
        due.is("its crest", y.work(0, 5), 10);
        due.is("its layers", y.layer(0, 1, 1), 2);
        due.says("CREST: the HEIGHT of its SQUARE and all that is THICK together");
        SeaLand z = new SeaLand();
        z.land(13, 13, 0, 2, 0);
        z.land(14, 14, 0, 0, 0);
        z.dike(13, 12, 14, 5);
        z.layer(0, 10, 9);
        z.hours(72);
        due.is("it sinks with its peat", z.work(0, 5), 9);
        SeaLand w = withDike(-900, 0, 5);
        due.is("far below", w.work(0, 5), -900);
        w.land(13, 13, 300, 0, 0);
        due.is("the land is told anew", w.work(0, 5), 300);
    }

    private static void undersides() {
        due.says("SEEP: HEAD times the sum of 10 less CLAY of all LAYERS whose underside is below the OUTSIDE, by 100, rounded down");
        // From -900 on: undersides -900, -800, -790; the land behind lies so low that the dike's height counts.
        SeaLand x = withDike(-900, -900, 1000);
        x.layer(0, 100, 0);
        x.layer(0, 10, 3);
        x.layer(0, 1, 9);
        due.is("at the first underside", x.seep(0, -900), 0);
        due.is("above the first", x.seep(0, -890), 1);
        due.is("nine hundredths and ninety", x.seep(0, -891), 0);
        due.is("at the second underside", x.seep(0, -800), 10);
        due.is("above the second", x.seep(0, -799), 101 * 17 / 100);
        due.is("at the third underside", x.seep(0, -790), 110 * 17 / 100);
        due.is("above the third", x.seep(0, -789), 111 * 18 / 100);
        due.is("above the crest", x.seep(0, 1000), 1900 * 18 / 100);
        SeaLand y = withDike(-900, -900, 1000);
        due.is("without layers", y.seep(0, 1000), 0);
    }

    private static void heads() {
        due.says("HEAD: the OUTSIDE less the greater of the LAND SQUARE's LEVEL and the DIKE's SQUARE's HEIGHT; 0 at least");
        SeaLand x = withDike(-50, -100, 1000);
        x.layer(0, 300, 0);
        due.is("the dike's height", x.seep(0, 50), 10);
        x.fill(14, 50, 0);
        due.is("both alike", x.seep(0, 50), 10);
        x.fill(14, 60, 0);
        due.is("the land's level", x.seep(0, 50), 9);
        x.fill(14, 150, 0);
        due.is("0", x.seep(0, 50), 0);
        x.fill(14, 900, 0);
        due.is("0 at least", x.seep(0, 50), 0);
        x.fill(13, 900, 0);
        x.fill(14, 0, 0);
        due.is("not the dike's water", x.seep(0, 50), 10);
        due.is("below the dike", x.seep(0, -51), 0);
    }

    private static void seepAsked() {
        due.says("What SEEP a DIKE would have with that OUTSIDE, and its LAND SQUARE as it is now (0 of a BREACH). IllegalArgumentException: OUTSIDE is not - 1000 to 1000; ClassCastException: it is neither");
        SeaLand x = withDike(0, 0, 1000);
        x.layer(0, 300, 0);
        due.numbers("outside", -1000, 1000, n -> x.seep(0, n));
        due.is("nothing changed by it", x.work(0, 0), 0);
        due.is("at 1000", x.seep(0, 1000), 100);
        x.storm(1, 1, 301);
        x.hours(1);
        due.is("a breach", x.work(0, 0), 1);
        due.says("of a BREACH there is no SEEP, but RUN");
        due.is("of a breach", x.seep(0, 1000), 0);
        due.numbers("outside of a breach", -1000, 1000, n -> x.seep(0, n));
    }

    private static void breakings() {
        due.says("or the OUTSIDE above its CREST; then it is a BREACH");
        for (int over = -1; over <= 1; over++) {
            SeaLand x = withDike(0, 0, 1000);
            x.layer(0, 50, 9);
            x.storm(1, 1, 50 + over);
            x.hours(1);
            due.is("outside " + over + " above the crest", x.work(0, 0), over == 1 ? 1 : 0);
        }
        SeaLand y = withDike(0, 0, 1000);
        y.hours(1);
        due.is("without layers the height is the crest", y.work(0, 0), 0);
        y.storm(2, 2, 1);
        y.hours(1);
        due.is("above it", y.work(0, 0), 1);
        due.says("(b) DIKES and BREACHES, by numbers: one that BREAKS is a BREACH from this hour on");
        SeaLand z = withDike(0, 0, 1000);
        z.storm(1, 1, 300);
        z.hours(1);
        due.is("it runs in this hour", z.work(0, 3), 10);
        due.is("no seep", z.square(14, 4), 10);
        due.says("of what comes from the sea each brings 30 SALT");
        due.is("salt", z.square(14, 5), 300);
        due.is("14 what came in from the sea in all", z.count(14), 10);
        due.says("3 BREACHES");
        due.is("breaches", z.count(3), 1);
    }

    private static void widths() {
        due.says("then it is a BREACH, of WIDTH 4, 2 wider each further hour, 60 at most");
        SeaLand x = withDike(0, 0, 5);
        x.storm(1, 1, 1);
        for (int hour = 1; hour <= 40; hour++) {
            x.hours(1);
            due.is("width in hour " + hour, x.work(0, 5), Math.min(60, 2 + 2 * hour));
        }
        x.shut(0);
        x.storm(41, 41, 1);
        x.hours(1);
        due.is("anew", x.work(0, 5), 4);
    }

    /** What a new breach runs in an hour with that OUTSIDE; the land behind lies at 0 with that WATER. */
    private static int runOf(int outside, int water) {
        SeaLand x = withDike(-400, 0, 5);
        x.fill(14, water, 0);
        x.tide(1, outside);
        x.hours(1);
        due.is("a breach", x.work(0, 0), 1);
        due.is("it is gone or came", x.square(14, 4), water + x.work(0, 3));
        due.is("counted in", x.count(14), Math.max(0, x.work(0, 3)));
        due.is("counted out", x.count(15), Math.max(0, -x.work(0, 3)));
        return x.work(0, 3);
    }

    private static void runs() {
        due.says("RUN: the OUTSIDE less the LAND SQUARE's LEVEL, times WIDTH, by 120, rounded toward 0 "
                + "(below 0 it runs out: as much as there is at most)");
        int[][] cases = {{0, 0, 0}, {29, 0, 0}, {30, 0, 1}, {59, 0, 1}, {60, 0, 2}, {0, 29, 0}, {0, 30, -1}, {0, 59, -1},
            {0, 60, -2}, {-300, 5, -5}, {-300, 10, -10}, {-300, 11, -10}, {-300, 9, -9}, {-300, 0, 0}, {400, 0, 13}};
        for (int[] one : cases) {
            due.is("outside " + one[0] + " water " + one[1], runOf(one[0], one[1]), one[2]);
        }
        due.says("what runs out takes its part");
        SeaLand x = withDike(-400, 0, 5);
        x.fill(14, 110, 1200);
        x.tide(1, -10);
        x.hours(1);
        due.is("4 of it", x.work(0, 3), -4);
        due.is("its part", x.square(14, 5), 1160);
    }

    private static void shutting() {
        due.says("A BREACH is shut by hand: a DIKE again, with its LAYERS: true. ClassCastException: it is none");
        SeaLand x = withDike(0, 0, 1000);
        x.layer(0, 20, 9);
        x.layer(0, 30, 8);
        due.wrongKind("a dike", () -> x.shut(0));
        x.storm(1, 1, 51);
        x.hours(1);
        due.is("shut", x.shut(0), true);
        due.is("a dike", x.work(0, 0), 0);
        due.is("its crest", x.work(0, 5), 50);
        due.is("one came through", x.square(14, 4), 1);
        due.is("its seep", x.seep(0, 101), 100 * 3 / 100);
        due.is("no breaches", x.count(3), 0);
        due.wrongKind("once", () -> x.shut(0));
        x.hours(1);
        due.is("it holds", x.work(0, 0), 0);
    }

    private static int lifted(int power, int wind, int water) {
        SeaLand x = new SeaLand();
        x.land(40, 41, 0, 0, 0);
        x.mill(40, 41, power, false);
        x.fill(40, water, 0);
        x.weather(false, 1, wind);
        x.hours(1);
        due.is("it comes there", x.square(41, 4), x.work(0, 3));
        due.is("and goes here", x.square(40, 4), water - x.work(0, 3));
        return x.work(0, 3);
    }

    private static void mills() {
        due.says("A MILL, from its SQUARE to a SQUARE beside it (SEA or LAND): LIFTS in an hour its POWER (1 to 60) times WIND, "
                + "by 10, rounded down");
        due.numbers("power of a mill", 1, 60, n -> freshLand().mill(40, 41, n, false));
        due.numbers("power of an engine", 1, 60, n -> freshLand().mill(40, 41, n, true));
        due.is("9 tenths", lifted(1, 9, 900), 0);
        due.is("18 tenths", lifted(2, 9, 900), 1);
        due.is("19 would be 1, too", lifted(19, 1, 900), 1);
        due.is("a whole one", lifted(10, 1, 900), 1);
        due.is("20 tenths", lifted(5, 4, 900), 2);
        due.is("no wind", lifted(60, 0, 900), 0);
        due.is("the most", lifted(60, 9, 900), 54);
        due.says("Neither LIFTS more than its SQUARE's WATER");
        due.is("more than there is", lifted(60, 9, 53), 53);
        due.is("all there is", lifted(60, 9, 54), 54);
        due.is("less than there is", lifted(60, 9, 55), 54);
        due.is("none there", lifted(60, 9, 0), 0);
        due.says("A MILL, or an ENGINE (not ON, without COAL): its number; NONE likewise, or if it MAY not BUILD there");
        SeaLand x = freshLand();
        due.none("no land", x.mill(30, 31, 5, false));
        due.is("to the land", x.mill(40, 41, 5, false), 0);
        due.none("a work there", x.mill(40, 52, 5, true));
        due.is("to the sea", x.mill(41, 29, 5, true), 1);
        due.is("two", x.count(2), 2);
        due.indices("square", 96, s -> x.mill(s, 41, 5, false));
        due.indices("to", 96, s -> x.mill(40, s, 5, false));
        due.wrongIndex("no square, and no power", () -> x.mill(-1, 41, 0, false));
        due.wrongIndex("no other square, and no power", () -> x.mill(40, 96, 0, false));
        due.wrongNumber("no power, and no land", () -> x.mill(0, 1, 0, false));
        for (int bar = 0; bar <= 18; bar++) {
            SeaLand y = withDike(0, 0, 5);
            y.land(15, 16, 0, 0, 0);
            Due.found(y, "bar " + bar);
            due.is("on 14 with bar " + bar, y.mill(14, 15, 5, false), bar <= 1 ? 1 : NONE);
            due.is("on 16 with bar " + bar, y.mill(16, 15, 5, true), bar <= 1 ? 2 : bar <= 3 ? 1 : NONE);
        }
    }

    private static SeaLand freshLand() {
        SeaLand x = new SeaLand();
        x.land(40, 41, 0, 0, 0);
        return x;
    }

    private static SeaLand withEngine(int power, int coal, boolean on, int water) {
        SeaLand x = freshLand();
        x.mill(40, 41, power, true);
        x.coal(0, coal);
        x.turn(0, on);
        x.fill(40, water, 0);
        return x;
    }

    private static void engines() {
        due.says("An ENGINE is a MILL that LIFTS its POWER in any hour in which it is ON and has COAL "
                + "(one is burned each such hour, also with nothing to lift); else nothing");
        int[][] cases = {{1, 1, 60, 0}, {1, 0, 0, 0}, {0, 1, 0, 1}, {0, 0, 0, 0}, {1, 2, 60, 1}};
        for (int[] one : cases) {
            SeaLand x = withEngine(60, one[1], one[0] == 1, 900);
            x.hours(1);
            due.is("on " + one[0] + " coal " + one[1], x.work(0, 3), one[2]);
            due.is("coal left", x.work(0, 6), one[3]);
        }
        SeaLand y = withEngine(60, 2, true, 0);
        y.hours(1);
        due.is("nothing to lift", y.work(0, 3), 0);
        due.is("burned all the same", y.work(0, 6), 1);
        y.hours(5);
        due.is("none is burned of none", y.work(0, 6), 0);
        due.is("still on", y.work(0, 7), 1);
        SeaLand z = withEngine(60, 5, true, 900);
        z.weather(false, 0, 9);
        z.hours(1);
        due.is("the wind is nothing to it", z.work(0, 3), 60);
        due.says("Neither LIFTS more than its SQUARE's WATER");
        for (int water = 59; water <= 61; water++) {
            SeaLand w = withEngine(60, 5, true, water);
            w.hours(1);
            due.is("of " + water, w.work(0, 3), Math.min(60, water));
        }
        due.says("A MILL, or an ENGINE (not ON, without COAL)");
        SeaLand v = freshLand();
        v.mill(40, 41, 5, true);
        due.is("not on", v.work(0, 7), 0);
        due.is("without coal", v.work(0, 6), 0);
    }

    private static void coals() {
        due.says("COAL comes to an ENGINE: how much it has. IllegalArgumentException: not 0 to 10000, "
                + "or more than 100000 together; ClassCastException: it is none");
        due.numbers("coal", 0, 10000, n -> withEngine(5, 0, false, 0).coal(0, n));
        SeaLand x = withEngine(5, 0, true, 0);
        for (int i = 1; i <= 9; i++) {
            due.is("coal", x.coal(0, 10000), 10000 * i);
        }
        due.is("all but one", x.coal(0, 9999), 99999);
        due.wrongNumber("two more", () -> x.coal(0, 2));
        due.is("none came", x.work(0, 6), 99999);
        due.is("one more", x.coal(0, 1), 100000);
        due.wrongNumber("one more", () -> x.coal(0, 1));
        due.is("none more", x.coal(0, 0), 100000);
        x.hours(1);
        due.is("one is burned", x.coal(0, 1), 100000);
    }

    private static int letOut(int level, int outside, int water, int gate) {
        SeaLand x = new SeaLand();
        x.land(40, 40, level - water, 0, 0);
        x.sluice(40, 41, gate);
        x.turn(0, true);
        x.fill(40, water, 0);
        x.tide(1, outside);
        x.hours(1);
        due.is("out", x.count(15), x.work(0, 3));
        due.is("what stays", x.square(40, 4), water - x.work(0, 3));
        return x.work(0, 3);
    }

    private static void sluices() {
        due.says("A SLUICE, from its SQUARE to a SEA SQUARE beside it: if it is OPEN, and OUTSIDE is below its SQUARE's LEVEL: a quarter of the difference, rounded down, "
                + "and not more than the WATER, nor its GATE (1 to 60)");
        due.numbers("gate", 1, 60, n -> freshLand().sluice(40, 39, n));
        int[][] cases = {{100, 101, 50, 60, 0}, {100, 100, 50, 60, 0}, {100, 99, 50, 60, 0}, {100, 97, 50, 60, 0},
            {100, 96, 50, 60, 1}, {100, 93, 50, 60, 1}, {100, 92, 50, 60, 2}, {100, 0, 24, 60, 24}, {100, 0, 25, 60, 25},
            {100, 0, 26, 60, 25}, {100, 0, 50, 24, 24}, {100, 0, 50, 25, 25}, {100, 0, 50, 26, 25}, {100, -400, 300, 60, 60},
            {100, 0, 0, 60, 0}, {-200, -400, 90, 49, 49}, {-200, -400, 90, 51, 50}, {100, 0, 50, 1, 1}};
        for (int[] one : cases) {
            due.is("level " + one[0] + " outside " + one[1] + " water " + one[2] + " gate " + one[3],
                    letOut(one[0], one[1], one[2], one[3]), one[4]);
        }
        due.says("A SLUICE, shut: its number");
        SeaLand x = freshLand();
        due.is("a sluice", x.sluice(40, 39, 5), 0);
        due.is("shut", x.work(0, 7), 0);
        x.fill(40, 900, 0);
        x.hours(1);
        due.is("nothing goes", x.work(0, 3), 0);
        due.says("NONE, IllegalArgumentException (GATE), UnsupportedOperationException likewise (it may be built anywhere)");
        due.none("a work there", x.sluice(40, 28, 5));
        due.none("no land", x.sluice(30, 31, 5));
        due.none("to land", x.sluice(41, 40, 5));
        due.is("one", x.count(2), 1);
        due.indices("square", 96, s -> x.sluice(s, 39, 5));
        due.indices("sea", 96, s -> x.sluice(40, s, 5));
        due.wrongIndex("no sea, and no gate", () -> x.sluice(40, 96, 0));
        SeaLand y = withDike(0, 0, 5);
        Due.found(y, "bar 18");
        due.is("anywhere", y.sluice(14, 15, 5), 1);
    }

    private static void turning() {
        due.says("An ENGINE is ON, a SLUICE OPEN, or not: whether it was otherwise. ClassCastException: it is neither");
        SeaLand x = freshLand();
        x.mill(40, 41, 5, true);
        x.sluice(41, 42, 5);
        for (int work = 0; work < 2; work++) {
            due.is("off already", x.turn(work, false), false);
            due.is("on", x.turn(work, true), true);
            due.is("7", x.work(work, 7), 1);
            due.is("on already", x.turn(work, true), false);
            due.is("7", x.work(work, 7), 1);
            due.is("off", x.turn(work, false), true);
            due.is("7", x.work(work, 7), 0);
        }
    }

    private static void thirty() {
        due.says("WORKS (at most 30, numbered from 0 on), each on a LAND SQUARE");
        SeaLand x = new SeaLand();
        x.land(0, 95, 0, 0, 0);
        SeaLand y = new SeaLand();
        y.land(12, 95, 0, 0, 0);
        for (int i = 0; i < 30; i++) {
            if (i == 29) {
                due.is("29", x.count(2), 29);
            }
            due.is("work", x.mill(12 + i, 24 + i, 5, i % 2 == 0), i);
            due.is("work", i < 6 ? y.dike(12 + i, i, 24 + i, 5) : i < 12 ? y.sluice(12 + i, i, 5) : y.mill(12 + i, 24 + i, 5, true), i);
        }
        due.says("UnsupportedOperationException: there are 30");
        due.tooMany("a mill", () -> x.mill(90, 91, 5, false));
        due.tooMany("an engine", () -> y.mill(90, 91, 5, true));
        due.tooMany("a dike", () -> y.dike(42, 0, 54, 5));
        due.tooMany("a sluice", () -> y.sluice(90, 0, 5));
        due.says("IllegalArgumentException: POWER is none; UnsupportedOperationException likewise");
        due.wrongNumber("a mill", () -> x.mill(90, 91, 61, false));
        due.wrongNumber("a dike", () -> y.dike(90, 91, 79, 0));
        due.wrongNumber("a sluice", () -> y.sluice(90, 91, 61));
        due.wrongIndex("a mill", () -> x.mill(96, 91, 61, false));
        due.is("30", x.count(2), 30);
        due.none("none came", x.square(90, 10));
        due.indices("work", 30, w -> x.work(w, 0));
        due.is("the last one", x.square(41, 10), 29);
    }

    private static void workAsked() {
        due.says("NoSuchElementException: another what");
        SeaLand x = new SeaLand();
        x.land(12, 23, -10, 0, 0);
        x.dike(12, 0, 13, 5);
        x.dike(14, 2, 13, 5);
        x.mill(16, 17, 6, false);
        x.mill(18, 19, 7, true);
        x.sluice(20, 8, 8);
        x.layer(0, 10, 9);
        x.layer(1, 3, 9);
        x.coal(3, 9);
        x.turn(3, true);
        x.turn(4, true);
        x.fill(18, 50, 0);
        x.fill(20, 50, 0);
        x.weather(false, 0, 9);
        x.fill(16, 50, 0);
        x.hours(2);
        due.says("Of a WORK what 0 its kind: 0 DIKE, 1 BREACH, 2 MILL, 3 ENGINE, 4 SLUICE; 1 its SQUARE, "
                + "2 whether it holds water off (1: DIKE, else 0)");
        due.says("5 CREST of a DIKE, WIDTH of a BREACH, POWER, GATE, 6 LAYERS, COAL (0 of others), 7 1 if it is ON or OPEN, else 0");
        int[][] want = {
            {0, 12, 1, 0, 0, 0, 1, 0}, {1, 14, 0, 0, 0, 6, 1, 0}, {2, 16, 0, 5, 10, 6, 0, 0},
            {3, 18, 0, 7, 14, 7, 7, 1}, {4, 20, 0, 8, 16, 8, 0, 1}};
        for (int work = 0; work < 5; work++) {
            int at = work;
            due.whats("work " + work, 7, n -> x.work(at, n));
            for (int what = 0; what < 8; what++) {
                due.is("work(" + work + ", " + what + ")", x.work(work, what), want[work][what]);
            }
        }
        due.says("3 what it brought in (DIKE, BREACH), LIFTED (MILL, ENGINE) or let out (SLUICE) in the latest hour, 4 that in all hours");
        x.fill(16, 0, 0);
        x.fill(18, 0, 0);
        x.fill(20, 0, 0);
        x.hours(1);
        for (int work = 2; work < 5; work++) {
            due.is("nothing in the latest hour", x.work(work, 3), 0);
            due.is("in all hours", x.work(work, 4), want[work][4]);
        }
    }

    private static void kinds() {
        due.says("ClassCastException: the WORK is of another kind");
        SeaLand x = new SeaLand();
        x.land(12, 23, -10, 0, 0);
        x.dike(12, 0, 13, 5);
        x.dike(14, 2, 13, 5);
        x.mill(16, 17, 6, false);
        x.mill(18, 19, 7, true);
        x.sluice(20, 8, 8);
        x.layer(0, 10, 9);
        x.hours(1);
        // By kinds: dike, breach, mill, engine, sluice.
        boolean[][] may = {
            {true, true, false, false, false}, {false, false, false, true, true}, {false, false, false, true, false},
            {true, true, false, false, false}, {true, true, false, false, false}, {false, true, false, false, false}};
        for (int work = 0; work < 5; work++) {
            int at = work;
            due.is("kind", x.work(work, 0), work);
            due.fails("layer", may[0][work] ? null : ClassCastException.class, () -> x.layer(at, 1, 1));
            due.fails("turn", may[1][work] ? null : ClassCastException.class, () -> x.turn(at, true));
            due.fails("coal", may[2][work] ? null : ClassCastException.class, () -> x.coal(at, 1));
            due.fails("seep", may[3][work] ? null : ClassCastException.class, () -> x.seep(at, 0));
            due.fails("contract", may[4][work] ? null : ClassCastException.class, () -> x.contract(at, 0, 1, 0));
            due.fails("soonest", may[5][work] ? null : ClassCastException.class, () -> x.soonest(at, 1, 0));
            due.wrongNumber("layer, and wrong", () -> x.layer(at, 0, 1));
            due.wrongNumber("coal, and wrong", () -> x.coal(at, 10001));
            due.wrongNumber("seep, and wrong", () -> x.seep(at, 1001));
            due.wrongNumber("contract, and wrong", () -> x.contract(at, 0, 0, 0));
            due.wrongNumber("soonest, and wrong", () -> x.soonest(at, 0, 0));
        }
        for (int work = 0; work < 5; work++) {
            int at = work;
            due.fails("shut", work == 1 ? null : ClassCastException.class, () -> x.shut(at));
        }
        due.says("IndexOutOfBoundsException: there is no such SQUARE, WORK, SETTLER, FARM, CONTRACT");
        due.indices("work", 5, w -> x.work(w, 0));
        for (int none : new int[] {-1, 5, Integer.MIN_VALUE, Integer.MAX_VALUE}) {
            due.wrongIndex("layer", () -> x.layer(none, 0, 0));
            due.wrongIndex("turn", () -> x.turn(none, true));
            due.wrongIndex("coal", () -> x.coal(none, -1));
            due.wrongIndex("work", () -> x.work(none, -1));
            due.wrongIndex("seep", () -> x.seep(none, 1001));
            due.wrongIndex("shut", () -> x.shut(none));
            due.wrongIndex("contract", () -> x.contract(none, -1, 0, -1));
            due.wrongIndex("soonest", () -> x.soonest(none, 0, 1001));
        }
    }

    private static void orderOfAnHour() {
        due.says("(c) SLUICES, by numbers. (d) all at once, by what there is behind (c)");
        SeaLand x = new SeaLand();
        x.land(40, 41, 0, 0, 20);
        x.sluice(40, 39, 60);
        x.turn(0, true);
        x.fill(40, 20, 0);
        x.hours(1);
        due.is("the sluice comes first", x.work(0, 3), 5);
        due.is("then the ditch", x.square(41, 4), 7);
        due.is("what stays", x.square(40, 4), 8);
        due.says("(e) MILLS and ENGINES, by numbers");
        for (int first = 0; first < 2; first++) {
            SeaLand y = new SeaLand();
            y.land(40, 42, 0, 0, 0);
            y.mill(first == 0 ? 40 : 41, first == 0 ? 41 : 42, 10, true);
            y.mill(first == 0 ? 41 : 40, first == 0 ? 42 : 41, 10, true);
            for (int work = 0; work < 2; work++) {
                y.coal(work, 1);
                y.turn(work, true);
            }
            y.fill(40, 10, 0);
            y.hours(1);
            due.is("by numbers", y.square(first == 0 ? 42 : 41, 4), 10);
        }
        SeaLand z = new SeaLand();
        z.land(40, 41, 0, 0, 20);
        z.mill(41, 42, 60, true);
        z.coal(0, 1);
        z.turn(0, true);
        z.fill(40, 20, 0);
        z.hours(1);
        due.is("the ditch ahead of the engine", z.work(0, 3), 10);
        due.says("(b) DIKES and BREACHES, by numbers");
        SeaLand w = new SeaLand();
        w.land(13, 15, 0, 0, 0);
        w.land(14, 14, -100, 0, 0);
        w.dike(15, 3, 14, 1000);
        w.dike(13, 1, 14, 1000);
        w.layer(0, 300, 0);
        w.layer(1, 300, 0);
        w.storm(1, 1, 300);
        w.hours(1);
        due.is("the first", w.work(0, 3), 30);
        due.is("the second, still below its height", w.work(1, 3), 30);
        w.fill(14, 130, 0);
        w.storm(2, 2, 300);
        w.hours(1);
        due.is("the first", w.work(0, 3), 27);
        due.is("the second, by what the first brought", w.work(1, 3), (300 - 57) / 10);
        due.says("(a) each LAND SQUARE has RAIN more WATER");
        w.fill(14, 130, 0);
        w.storm(3, 3, 300);
        w.weather(true, 3, 20);
        w.hours(1);
        due.is("rain ahead of the seep", w.work(0, 3), 25);
    }

    private static void changedSea() {
        due.says("What goes to SEA is gone");
        SeaLand x = new SeaLand();
        x.land(40, 40, 0, 0, 0);
        x.mill(40, 41, 60, true);
        x.coal(0, 5);
        x.turn(0, true);
        x.land(41, 41, 0, 0, 0);
        x.fill(40, 60, 0);
        x.hours(1);
        due.is("what was sea at hour 0 is land now", x.square(41, 4), 60);
        due.is("nothing went to the sea", x.count(15), 0);
    }
}
