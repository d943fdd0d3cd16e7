/** Promises 10 to 19: dikes and breaches, mills, engines and sluices. */
public final class WorksTest {
    private static final Due due = new Due();

    public static void main(String[] args) {
        dike();
        layers();
        seep();
        breakByLimit();
        breakByCrest();
        breachRunsOut();
        shut();
        mills();
        engines();
        sluices();
        orderOfAnHour();
        thirty();
        noSuchWork();
        due.end();
    }

    private static SeaLand withDike(int dikeHeight, int landHeight, int limit) {
        SeaLand x = new SeaLand();
        x.land(13, 13, dikeHeight, 1, 0);
        x.land(14, 14, landHeight, 1, 0);
        x.dike(13, 12, 14, limit);
        return x;
    }

    private static void dike() {
        SeaLand x = new SeaLand();
        x.land(13, 15, -10, 0, 0);
        due.none("on the sea", x.dike(1, 0, 13, 5));
        due.none("sea is land", x.dike(14, 13, 15, 5));
        due.none("sea is not beside", x.dike(13, 11, 14, 5));
        due.none("not across the edge", x.dike(13, 24, 14, 5));
        due.none("inland is sea", x.dike(13, 12, 1, 5));
        due.none("inland is not beside", x.dike(13, 12, 15, 5));
        due.is("a dike", x.dike(13, 12, 14, 1000), 0);
        due.none("a second one", x.dike(13, 12, 14, 5));
        due.none("a mill there", x.mill(13, 14, 5, false));
        due.none("a sluice there", x.sluice(13, 12, 5));
        due.is("beside it", x.dike(14, 2, 13, 1), 1);
        due.wrongIndex("square", () -> x.dike(96, 0, 0, 0));
        due.wrongIndex("sea", () -> x.dike(0, -1, 0, 0));
        due.wrongIndex("inland", () -> x.dike(0, 0, 96, 0));
        due.wrongNumber("limit", () -> x.dike(1, 0, 13, 0));
        due.wrongNumber("limit", () -> x.dike(15, 3, 14, 1001));
        int[] want = {0, 13, 1, 0, 0, -10, 0, 0};
        for (int what = 0; what < 8; what++) {
            due.is("work(0, " + what + ")", x.work(0, what), want[what]);
        }
        due.is("its square", x.square(13, 10), 0);
        due.is("works", x.count(2), 2);
        due.nothingSuch("what 8", () -> x.work(0, 8));
        due.nothingSuch("what -1", () -> x.work(0, -1));
    }

    private static void layers() {
        SeaLand x = withDike(-20, -100, 1000);
        for (int i = 1; i <= 6; i++) {
            due.is("layer " + i, x.layer(0, i == 6 ? 300 : 1, i), i);
        }
        due.none("a 7th", x.layer(0, 1, 1));
        due.is("layers", x.work(0, 6), 6);
        due.is("crest", x.work(0, 5), 285);
        due.wrongNumber("thick", () -> x.layer(0, 0, 1));
        due.wrongNumber("thick", () -> x.layer(0, 301, 1));
        due.wrongNumber("clay", () -> x.layer(0, 1, 10));
        due.wrongNumber("clay", () -> x.layer(0, 1, -1));
        x.mill(14, 15, 1, false);
        due.wrongKind("a mill", () -> x.layer(1, 1, 1));
        due.wrongNumber("a mill, and wrong", () -> x.layer(1, 0, 1));
    }

    private static void seep() {
        SeaLand x = withDike(-20, -100, 1000);
        due.is("without layers", x.seep(0, 1000), 0);
        x.layer(0, 20, 0);
        x.layer(0, 10, 0);
        x.layer(0, 10, 9);
        due.is("below its foot", x.seep(0, -20), 0);
        due.is("the lowest layer", x.seep(0, 0), 2);
        due.is("two", x.seep(0, 10), 6);
        due.is("three", x.seep(0, 11), 6);
        due.is("three", x.seep(0, 30), 10);
        x.fill(14, 90, 0);
        due.is("by the land's level", x.seep(0, 10), 4);
        due.is("rounded down", x.seep(0, 9), 3);
        due.is("edge", x.seep(0, -1000), 0);
        due.is("edge", x.seep(0, 1000), 1010 * 21 / 100);
        due.wrongNumber("outside", () -> x.seep(0, 1001));
        due.wrongNumber("outside", () -> x.seep(0, -1001));
        x.sluice(14, 2, 1);
        due.wrongKind("a sluice", () -> x.seep(1, 0));
        x.hours(1);
        due.is("brought in", x.work(0, 3), 10 * 10 / 100);
        due.is("salt", x.square(14, 5), 30);
    }

    private static void breakByLimit() {
        SeaLand x = withDike(-100, -100, 10);
        x.layer(0, 300, 0);
        x.hours(1);
        due.is("at the limit it holds", x.work(0, 0), 0);
        due.is("seep", x.work(0, 3), 10);
        x.tide(2, 20);
        x.hours(1);
        due.is("11 is above", x.work(0, 0), 1);
        due.is("breaches", x.count(3), 1);
        due.is("it runs", x.work(0, 3), (20 + 90) * 4 / 120);
        due.is("in all", x.work(0, 4), 13);
        due.is("from the sea", x.count(14), 13);
        due.is("layers", x.work(0, 6), 1);
        due.is("no seep", x.seep(0, 500), 0);
        due.none("no layer", x.layer(0, 1, 1));
        due.wrongNumber("a wrong layer", () -> x.layer(0, 0, 1));
        x.hours(27);
        due.is("width", x.work(0, 5), 58);
        x.hours(1);
        due.is("width", x.work(0, 5), 60);
        x.hours(1);
        due.is("width at most", x.work(0, 5), 60);
    }

    private static void breakByCrest() {
        SeaLand x = withDike(-100, -100, 1000);
        x.layer(0, 100, 9);
        x.hours(1);
        due.is("at the crest it holds", x.work(0, 0), 0);
        x.tide(2, 1);
        x.hours(1);
        due.is("above it breaks", x.work(0, 0), 1);
        due.is("width", x.work(0, 5), 4);
    }

    private static void breachRunsOut() {
        SeaLand x = withDike(-10, -10, 5);
        x.fill(14, 130, 1400);
        x.hours(1);
        due.is("out", x.work(0, 3), -4);
        due.is("water", x.square(14, 4), 126);
        due.is("salt", x.square(14, 5), 1360);
        x.hours(1);
        due.is("out wider", x.work(0, 3), -5);
        due.is("salt", x.square(14, 5), 1310);
        due.is("in all", x.work(0, 4), -9);
        due.is("to the sea", x.count(15), 9);
        due.is("nothing in", x.count(14), 0);
        x.tide(3, -400);
        x.fill(14, 3, 0);
        x.hours(1);
        due.is("as much as there is", x.work(0, 3), -3);
        due.is("empty", x.square(14, 4), 0);
        due.is("to the sea", x.count(15), 12);
    }

    private static void shut() {
        SeaLand x = withDike(-10, -10, 5);
        due.wrongKind("no breach", () -> x.shut(0));
        x.hours(3);
        due.is("width", x.work(0, 5), 8);
        due.is("shut", x.shut(0), true);
        due.is("a dike", x.work(0, 0), 0);
        due.is("breaches", x.count(3), 0);
        x.layer(0, 5, 0);
        x.hours(1);
        due.is("it breaks anew", x.work(0, 5), 4);
        x.shut(0);
        x.layer(0, 5, 0);
        x.hours(1);
        due.is("and holds at last", x.work(0, 2), 1);
    }

    private static void mills() {
        SeaLand x = new SeaLand();
        x.land(0, 1, 0, 0, 0);
        x.fill(0, 100, 0);
        due.none("on the sea", x.mill(2, 1, 5, false));
        due.none("not beside", x.mill(0, 2, 5, false));
        due.none("to itself", x.mill(0, 0, 5, false));
        due.is("a mill", x.mill(0, 1, 13, false), 0);
        due.none("twice", x.mill(0, 1, 13, true));
        due.wrongIndex("square", () -> x.mill(-1, 0, 0, false));
        due.wrongIndex("to", () -> x.mill(0, 96, 0, false));
        due.wrongNumber("power", () -> x.mill(1, 2, 0, false));
        due.wrongNumber("power", () -> x.mill(1, 2, 61, false));
        x.hours(1);
        due.is("without wind", x.work(0, 3), 0);
        x.weather(false, 0, 7);
        x.hours(1);
        due.is("lifted", x.work(0, 3), 9);
        due.is("there", x.square(1, 4), 9);
        due.is("kind", x.work(0, 0), 2);
        due.is("power", x.work(0, 5), 13);
        due.is("coal of others", x.work(0, 6), 0);
        x.fill(0, 4, 140);
        x.hours(1);
        due.is("not more than there is", x.work(0, 3), 4);
        due.is("its salt", x.square(1, 5), 40);
        due.is("salt stays", x.square(0, 5), 100);
        due.is("in all", x.work(0, 4), 13);
        due.wrongKind("turn", () -> x.turn(0, true));
        due.wrongKind("coal", () -> x.coal(0, 1));
        due.wrongNumber("coal wrong", () -> x.coal(0, -1));
        due.is("nothing went out", x.count(15), 0);
        Due.found(x, "bar 2");
        SeaLand y = withDike(0, 0, 5);
        y.land(15, 16, 0, 0, 0);
        Due.found(y, "bar 2");
        due.none("too near", y.mill(14, 15, 5, false));
        due.none("an engine too", y.mill(14, 15, 5, true));
        due.is("far enough", y.mill(15, 16, 5, false), 1);
        due.is("a sluice anywhere", y.sluice(14, 2, 5), 2);
    }

    private static void engines() {
        SeaLand x = new SeaLand();
        x.land(0, 0, 0, 0, 0);
        due.is("an engine", x.mill(0, 1, 60, true), 0);
        due.is("kind", x.work(0, 0), 3);
        due.is("not on", x.work(0, 7), 0);
        due.is("no coal", x.work(0, 6), 0);
        due.is("coal", x.coal(0, 10000), 10000);
        due.is("no coal comes", x.coal(0, 0), 10000);
        for (int i = 2; i <= 10; i++) {
            due.is("coal", x.coal(0, 10000), i * 10000);
        }
        due.wrongNumber("above all", () -> x.coal(0, 1));
        due.wrongNumber("too much at once", () -> fresh().coal(0, 10001));
        due.wrongNumber("below", () -> x.coal(0, -1));
        x.fill(0, 100, 110);
        x.hours(1);
        due.is("off", x.work(0, 3), 0);
        due.is("burns nothing", x.work(0, 6), 100000);
        due.is("on", x.turn(0, true), true);
        due.is("on already", x.turn(0, true), false);
        x.hours(1);
        due.is("lifts", x.work(0, 3), 60);
        due.is("salt goes", x.square(0, 5), 50);
        due.is("out", x.count(15), 60);
        x.hours(2);
        due.is("nothing to lift", x.work(0, 3), 0);
        due.is("burns all the same", x.work(0, 6), 99997);
        due.is("in all", x.work(0, 4), 100);
        due.is("off", x.turn(0, false), true);
        due.is("off already", x.turn(0, false), false);
        x.hours(1);
        due.is("burns no more", x.work(0, 6), 99997);
    }

    private static SeaLand fresh() {
        SeaLand x = new SeaLand();
        x.land(0, 0, 0, 0, 0);
        x.mill(0, 1, 60, true);
        return x;
    }

    private static void sluices() {
        SeaLand x = new SeaLand();
        x.land(0, 1, 10, 0, 0);
        due.none("to land", x.sluice(0, 1, 5));
        due.none("not beside", x.sluice(0, 24, 5));
        due.is("a sluice", x.sluice(0, 12, 60), 0);
        due.wrongIndex("square", () -> x.sluice(96, 0, 0));
        due.wrongIndex("sea", () -> x.sluice(0, 96, 0));
        due.wrongNumber("gate", () -> x.sluice(1, 2, 0));
        due.wrongNumber("gate", () -> x.sluice(1, 2, 61));
        int[] want = {4, 0, 0, 0, 0, 60, 0, 0};
        for (int what = 0; what < 8; what++) {
            due.is("work(0, " + what + ")", x.work(0, what), want[what]);
        }
        x.fill(0, 3, 130);
        x.hours(1);
        due.is("shut", x.work(0, 3), 0);
        x.turn(0, true);
        due.is("open", x.work(0, 7), 1);
        x.hours(1);
        due.is("a quarter of 13, all there is", x.work(0, 3), 3);
        due.is("salt stays", x.square(0, 5), 100);
        due.is("out", x.count(15), 3);
        x.fill(0, 900, 0);
        x.hours(1);
        due.is("the gate", x.work(0, 3), 60);
        x.tide(4, 400);
        x.fill(0, 390, 0);
        x.hours(1);
        due.is("not above", x.work(0, 3), 0);
        x.tide(5, 393);
        x.hours(1);
        due.is("a quarter of 7", x.work(0, 3), 1);
        due.is("in all", x.work(0, 4), 64);
    }

    /** Rain, dikes, sluices, ditches, mills, one behind the other in one hour. */
    private static void orderOfAnHour() {
        SeaLand x = new SeaLand();
        x.land(13, 16, -40, 0, 0);
        x.land(14, 15, -40, 0, 10);
        x.dike(13, 12, 14, 100);
        x.layer(0, 200, 0);
        x.mill(16, 17, 5, false);
        x.mill(15, 16, 10, false);
        x.sluice(14, 2, 2);
        x.turn(3, true);
        x.tide(1, -20);
        x.weather(true, 0, 3);
        x.weather(false, 0, 9);
        x.fill(14, 40, 0);
        x.hours(1);
        // 14: 40 + 3 rain; head -20 - 3 < 0: no seep; sluice (3 + 20) / 4 = 5, gate 2: 41; ditch (41 - 3) / 2, 10: 31.
        due.is("14", x.square(14, 4), 31);
        // 15: 3 + 10 of the ditch, then 9 of the mill, which is run behind that of 16 (3 of it lifted).
        due.is("15", x.square(15, 4), 4);
        due.is("16", x.square(16, 4), 9);
        due.is("13", x.square(13, 4), 3);
        due.is("dike", x.work(0, 3), 0);
        due.is("mill of 16", x.work(1, 3), 3);
        due.is("mill of 15", x.work(2, 3), 9);
        due.is("sluice", x.work(3, 3), 2);
        due.is("rain", x.count(13), 12);
        due.is("out", x.count(15), 5);
        due.is("balance", x.count(4), 40 + 12 - 5);
        x.fill(14, 0, 0);
        x.hours(1);
        // Rain comes ahead of the dike: head 0 + 37, by 10 hundredths 3; level -34: no sluice.
        due.is("seep", x.work(0, 3), 3);
        due.is("no sluice", x.work(3, 3), 0);
    }

    private static void thirty() {
        SeaLand x = new SeaLand();
        x.land(0, 95, 0, 0, 0);
        for (int i = 0; i < 30; i++) {
            due.is("work " + i, x.mill(i, i + 12, 5, i % 2 == 0), i);
        }
        due.tooMany("a 31st mill", () -> x.mill(50, 51, 5, false));
        due.tooMany("a 31st dike", () -> x.dike(50, 51, 52, 5));
        due.tooMany("a 31st sluice, where there is a work", () -> x.sluice(0, 1, 5));
        due.wrongNumber("a wrong 31st", () -> x.sluice(0, 1, 0));
        due.is("works", x.count(2), 30);
        x.weather(false, 0, 9);
        x.weather(true, 0, 20);
        for (int i = 0; i < 30; i += 2) {
            x.turn(i, true);
            x.coal(i, 100);
        }
        x.hours(48);
        due.is("the last mill", x.work(29, 4), 48 * 4);
        due.is("the last engine", x.work(28, 4), 48 * 5);
        due.is("its coal", x.work(28, 6), 52);
        due.is("balance", x.count(4), 96 * 20 * 48);
        due.is("in a plan", x.lifts(1000, 0, 24, 1000), 0);
    }

    private static void noSuchWork() {
        SeaLand x = withDike(0, 0, 5);
        for (int n = -1; n <= 1; n += 2) {
            int work = n;
            due.wrongIndex("layer", () -> x.layer(work, 0, 0));
            due.wrongIndex("turn", () -> x.turn(work, true));
            due.wrongIndex("coal", () -> x.coal(work, -1));
            due.wrongIndex("work", () -> x.work(work, 99));
            due.wrongIndex("seep", () -> x.seep(work, 9999));
            due.wrongIndex("shut", () -> x.shut(work));
            due.wrongIndex("contract", () -> x.contract(work, -1, 0, 0));
            due.wrongIndex("soonest", () -> x.soonest(work, 0, 0));
        }
        due.wrongKind("turn a dike", () -> x.turn(0, true));
        due.wrongKind("coal for a dike", () -> x.coal(0, 1));
    }
}
