import java.util.ArrayList;
import java.util.List;
import java.util.NoSuchElementException;

/**
 * A call that is refused, by an exception or by its answer, changes nothing: of two objects that were made alike one is
 * called so, and all that can be asked of both, now and behind the same further calls, is alike.
 */
public final class RefusedTest {
    private static final int NONE = SeaLand.NONE;
    private static final Class<?> INDEX = IndexOutOfBoundsException.class;
    private static final Class<?> NUMBER = IllegalArgumentException.class;
    private static final Class<?> STATE = IllegalStateException.class;
    private static final Class<?> KIND = ClassCastException.class;
    private static final Class<?> SUCH = NoSuchElementException.class;
    private static final Class<?> MANY = UnsupportedOperationException.class;
    private static final Due due = new Due();

    interface Maker {
        SeaLand make();
    }

    interface Asked {
        Object ask(SeaLand x);
    }

    public static void main(String[] args) {
        due.says("Of several exceptions the one told first is thrown; a call that throws changes nothing but the TAPE, where it is used up");
        indices();
        numbers();
        kindsAndWhats();
        states();
        answers();
        full();
        firstAndLastHour();
        tape();
        manyAtOnce();
        due.end();
    }

    /** Some of each thing; the tape has a text, a vote goes on, an image is kept, and a row is torn. */
    private static SeaLand some() {
        SeaLand x = new SeaLand();
        Due.found(x, "votes 2;dues 30;gain 10;call;fine 3;mark 1 if sons>0;level 5 6 in 12 40;bar 1");
        x.land(12, 59, -20, 1, 3);
        x.land(30, 33, -30, 2, 9);
        x.dike(12, 0, 13, 40);
        x.dike(14, 2, 15, 40);
        x.layer(0, 80, 5);
        x.layer(0, 10, 2);
        x.mill(26, 27, 5, false);
        x.mill(28, 29, 7, true);
        x.coal(3, 500);
        x.turn(3, true);
        x.sluice(18, 6, 9);
        x.turn(4, true);
        x.fill(26, 90, 500);
        x.fill(28, 300, 700);
        x.fill(31, 60, 9000);
        x.tide(3, 30);
        x.storm(5, 9, 20);
        x.weather(false, 0, 4);
        x.weather(false, 20, NONE);
        x.weather(true, 4, 1);
        for (int i = 0; i < 5; i++) {
            x.settler(20 + i, i, 10 * i, i, i % 2 == 0, i % 3 == 0, 9 - i);
            x.farm(36 + 2 * i, 37 + 2 * i);
            x.sow(i, i % 4);
        }
        x.choose(3);
        x.coin(4000);
        for (int i = 0; i < 3; i++) {
            x.contract(i % 2, 4, 5, 10);
            x.measure(i, 90 + i);
        }
        x.contract(0, 1, 1, 0);
        x.job(20, 2, 5, 3);
        x.job(0, 1, 7, 2);
        x.job(90, 3, 0, 9);
        x.hours(20);
        x.keep();
        x.fill(20, 33, 44);
        x.come(2);
        x.harvest();
        x.come(3);
        x.pay(0);
        Due.propose(x, "votes 9;dues 1");
        x.vote(2, true);
        x.hours(30);
        x.tear(3, 40, 8);
        Due.tape(x, "votes 7;out if age>21; fine 4");
        return x;
    }

    /** As many of each thing as there may be. */
    private static SeaLand allFull() {
        SeaLand x = new SeaLand();
        x.land(12, 95, -5, 0, 0);
        for (int i = 0; i < 30; i++) {
            int square = 12 + i;
            if (i < 6) {
                x.dike(square, i, square + 12, 500);
                for (int j = 0; j < 6; j++) {
                    x.layer(i, 20, j);
                }
            } else if (i < 12) {
                x.sluice(square, i, 5);
            } else {
                x.mill(square, square + 12, 3, i % 2 == 0);
            }
            x.farm(60 + i, 60 + i);
        }
        for (int i = 0; i < 60; i++) {
            x.weather(true, 3 * i, i % 3);
            x.weather(false, 4 * i, i % 10);
            x.settler(i, i % 20, i, i, false, false, i);
        }
        for (int i = 0; i < 20; i++) {
            x.storm(2 * i, 2 * i + 5, i + 1);
        }
        for (int i = 0; i < 40; i++) {
            x.contract(i % 6, 1, 1, 1);
            x.measure(i, 10 * i);
        }
        for (int i = 0; i < 7; i++) {
            x.job(10 * i, 1 + i, i, 9 - i);
        }
        for (int i = 0; i < 2000; i++) {
            x.coin(1000000);
        }
        for (int i = 0; i < 10; i++) {
            x.coal(12, 10000);
        }
        x.choose(60);
        for (int i = 0; i < 20; i++) {
            x.feed(0x20202020, 0x20202020, 0x20202020, 0x20202020, 0x20202020);
        }
        x.hours(30);
        return x;
    }

    private static String answer(SeaLand x, Asked asked) {
        try {
            return String.valueOf(asked.ask(x));
        } catch (RuntimeException e) {
            return e.getClass().getName();
        }
    }

    private static void refuse(Maker maker, String call, Object want, Asked asked) {
        SeaLand one = maker.make();
        SeaLand other = maker.make();
        String got = answer(one, asked);
        String due0 = want instanceof Class<?> c ? c.getName() : String.valueOf(want);
        due.is(call + " answered " + got + ", due is " + due0, got.equals(due0), true);
        alike(call, one, other);
    }

    private static void alike(String call, SeaLand one, SeaLand other) {
        String first = difference(Seen.all(one), Seen.all(other));
        due.is(call + " changed " + first, first.isEmpty(), true);
        String later = difference(future(one), future(other));
        due.is(call + " changed what comes later: " + later, later.isEmpty(), true);
    }

    private static String difference(String one, String other) {
        String[] lines = one.split("\n");
        String[] others = other.split("\n");
        for (int i = 0; i < Math.max(lines.length, others.length); i++) {
            String line = i < lines.length ? lines[i] : "nothing";
            String otherLine = i < others.length ? others[i] : "nothing";
            if (!line.equals(otherLine)) {
                return line + " from " + otherLine;
            }
        }
        return "";
    }

    /** Calls that tell what cannot be asked for: the tape, the vote, who came, what is paid, the image, what was told. */
    private static String future(SeaLand x) {
        List<String> all = new ArrayList<>();
        for (int n = 400; n >= 0; n--) {
            boolean ends = x.end(n);
            all.add("end " + n + " " + ends);
            if (ends) {
                break;
            }
        }
        all.add("found " + answer(x, SeaLand::found) + " " + x.fault());
        all.add("propose " + answer(x, SeaLand::propose));
        all.add("storm " + x.storm(60, 70, 3));
        all.add("rain " + x.weather(true, 60, 1));
        all.add("wind " + x.weather(false, 61, NONE));
        for (int s = 0; s < x.count(7); s++) {
            int at = s;
            all.add("come " + s + " " + x.come(s));
            all.add("vote " + s + " " + answer(x, y -> y.vote(at, at % 2 == 0)));
        }
        all.add("close " + answer(x, SeaLand::close));
        for (int c = 0; c < x.count(12); c++) {
            int at = c;
            all.add("measure " + c + " " + answer(x, y -> y.measure(at, 85)));
            all.add("pay " + c + " " + x.pay(c));
        }
        all.add("harvest " + x.harvest());
        all.add("hours " + x.hours(27));
        all.add(Seen.all(x));
        all.add("choose " + x.choose(60));
        all.add("jobs " + x.jobs());
        all.add("back " + x.back());
        all.add(Seen.all(x));
        all.add("storm " + x.storm(60, 70, 3));
        all.add("rain " + x.weather(true, 60, 1));
        all.add("wind " + x.weather(false, 61, NONE));
        all.add("hours " + x.hours(240));
        all.add(Seen.all(x));
        return String.join("\n", all);
    }

    private static void some(String call, Object want, Asked asked) {
        refuse(RefusedTest::some, call, want, asked);
    }

    private static void indices() {
        for (int none : new int[] {-1, 96}) {
            some("land", INDEX, x -> x.land(none, 0, 9999, 9, 99));
            some("land", INDEX, x -> x.land(0, none, 9999, 9, 99));
            some("fill", INDEX, x -> x.fill(none, -1, -1));
            some("dike", INDEX, x -> x.dike(none, 1, 25, 0));
            some("dike", INDEX, x -> x.dike(13, none, 25, 0));
            some("dike", INDEX, x -> x.dike(13, 1, none, 0));
            some("mill", INDEX, x -> x.mill(none, 13, 0, true));
            some("mill", INDEX, x -> x.mill(13, none, 0, true));
            some("sluice", INDEX, x -> x.sluice(none, 1, 0));
            some("sluice", INDEX, x -> x.sluice(13, none, 0));
            some("square", INDEX, x -> x.square(none, 99));
            some("lawLevel", INDEX, x -> x.lawLevel(none));
            some("mayBuild", INDEX, x -> x.mayBuild(none));
            some("farm", INDEX, x -> x.farm(none, 50));
            some("farm", INDEX, x -> x.farm(50, none));
            some("row", INDEX, x -> x.row(99, none));
            some("tear", INDEX, x -> x.tear(99, none, 1));
        }
        for (int none : new int[] {-1, 5}) {
            some("layer", INDEX, x -> x.layer(none, 0, 0));
            some("turn", INDEX, x -> x.turn(none, true));
            some("coal", INDEX, x -> x.coal(none, -1));
            some("work", INDEX, x -> x.work(none, 99));
            some("seep", INDEX, x -> x.seep(none, 9999));
            some("shut", INDEX, x -> x.shut(none));
            some("contract", INDEX, x -> x.contract(none, 99, 0, 0));
            some("soonest", INDEX, x -> x.soonest(none, 0, 0));
            some("vote", INDEX, x -> x.vote(none, true));
            some("rules", INDEX, x -> x.rules(none, 99));
            some("why", INDEX, x -> x.why(none, 99));
            some("come", INDEX, x -> x.come(none));
            some("who", INDEX, x -> x.who(none, 99));
            some("worth", INDEX, x -> x.worth(none));
            some("sow", INDEX, x -> x.sow(none, 99));
            some("levels", INDEX, x -> x.levels(none, -1));
        }
        for (int none : new int[] {-1, 4}) {
            some("measure", INDEX, x -> x.measure(none, -1));
            some("yards", INDEX, x -> x.yards(none, true));
            some("pay", INDEX, x -> x.pay(none));
        }
    }

    private static void numbers() {
        some("land", NUMBER, x -> x.land(0, 0, 301, 0, 0));
        some("land", NUMBER, x -> x.land(0, 0, 0, 3, 0));
        some("land", NUMBER, x -> x.land(0, 0, 0, 0, 21));
        some("fill", NUMBER, x -> x.fill(13, 901, 0));
        some("fill", NUMBER, x -> x.fill(13, 5, 100001));
        some("tide", NUMBER, x -> told(() -> x.tide(12, 7)));
        some("tide", NUMBER, x -> told(() -> x.tide(1, 401)));
        some("storm", NUMBER, x -> x.storm(5, 4, 7));
        some("storm", NUMBER, x -> x.storm(5, 40001, 7));
        some("storm", NUMBER, x -> x.storm(5, 9, 501));
        some("weather", NUMBER, x -> x.weather(true, 40001, 7));
        some("weather", NUMBER, x -> x.weather(true, 5, NONE));
        some("weather", NUMBER, x -> x.weather(false, 5, 10));
        some("dike", NUMBER, x -> x.dike(13, 1, 25, 1001));
        some("layer", NUMBER, x -> x.layer(0, 301, 0));
        some("layer", NUMBER, x -> x.layer(0, 5, 10));
        some("layer of a mill", NUMBER, x -> x.layer(2, 5, 10));
        some("mill", NUMBER, x -> x.mill(48, 49, 61, true));
        some("sluice", NUMBER, x -> x.sluice(13, 1, 61));
        some("coal", NUMBER, x -> x.coal(3, 10001));
        some("coal", NUMBER, x -> x.coal(3, -1));
        some("coal of a dike", NUMBER, x -> x.coal(0, -1));
        some("seep", NUMBER, x -> x.seep(0, 1001));
        some("hours", NUMBER, x -> x.hours(241));
        some("hours", NUMBER, x -> x.hours(-1));
        some("settler", NUMBER, x -> x.settler(100, 0, 0, 0, false, false, 0));
        some("settler", NUMBER, x -> x.settler(0, 21, 0, 0, false, false, 0));
        some("settler", NUMBER, x -> x.settler(0, 0, 100001, 0, false, false, 0));
        some("settler", NUMBER, x -> x.settler(0, 0, 0, 101, false, false, 0));
        some("settler", NUMBER, x -> x.settler(0, 0, 0, 0, false, false, 1000000));
        some("choose", NUMBER, x -> x.choose(61));
        some("choose", NUMBER, x -> x.choose(-1));
        some("sow", NUMBER, x -> x.sow(0, 4));
        some("coin", NUMBER, x -> x.coin(1000001));
        some("contract", NUMBER, x -> x.contract(0, 10, 1, 0));
        some("contract", NUMBER, x -> x.contract(0, 0, 1001, 0));
        some("contract", NUMBER, x -> x.contract(0, 0, 1, 201));
        some("measure", NUMBER, x -> x.measure(1, 2001));
        some("measure of a paid one", NUMBER, x -> x.measure(0, -1));
        some("lifts", NUMBER, x -> x.lifts(1001, 0, 1, 0));
        some("soonest", NUMBER, x -> x.soonest(1, 61, 0));
        some("levels", NUMBER, x -> x.levels(0, 1001));
        some("job", NUMBER, x -> x.job(1000001, 1, 0, 0));
        some("job", NUMBER, x -> x.job(0, 21, 0, 0));
        some("job", NUMBER, x -> x.job(0, 1, 100001, 0));
        some("job", NUMBER, x -> x.job(0, 1, 0, 1001));
        some("order", NUMBER, x -> x.order(1000001, 0));
    }

    private static Object told(Runnable call) {
        call.run();
        return "told";
    }

    private static void kindsAndWhats() {
        some("layer", KIND, x -> x.layer(2, 5, 5));
        some("layer", KIND, x -> x.layer(4, 5, 5));
        some("turn", KIND, x -> x.turn(0, true));
        some("turn", KIND, x -> x.turn(1, true));
        some("turn", KIND, x -> x.turn(2, true));
        some("coal", KIND, x -> x.coal(2, 5));
        some("coal", KIND, x -> x.coal(4, 5));
        some("seep", KIND, x -> x.seep(3, 5));
        some("shut", KIND, x -> x.shut(0));
        some("shut", KIND, x -> x.shut(3));
        some("contract", KIND, x -> x.contract(3, 5, 5, 5));
        some("soonest", KIND, x -> x.soonest(0, 5, 5));
        for (int none : new int[] {-1, 99}) {
            some("sky", SUCH, x -> x.sky(0, none));
            some("work", SUCH, x -> x.work(0, none));
            some("square", SUCH, x -> x.square(0, none));
            some("rules", SUCH, x -> x.rules(0, none));
            some("why", SUCH, x -> x.why(0, none));
            some("who", SUCH, x -> x.who(0, none));
            some("row", SUCH, x -> x.row(none, 0));
            some("tear", SUCH, x -> x.tear(none, 0, 1));
            some("count", NONE, x -> x.count(none));
        }
        some("sky", SUCH, x -> x.sky(40001, 0));
    }

    private static void states() {
        some("land", STATE, x -> x.land(0, 5, 0, 0, 0));
        some("measure", STATE, x -> x.measure(0, 50));
        refuse(RefusedTest::closed, "vote", STATE, x -> x.vote(2, true));
        refuse(RefusedTest::closed, "close", STATE, SeaLand::close);
    }

    private static SeaLand closed() {
        SeaLand x = some();
        x.close();
        return x;
    }

    private static void answers() {
        some("end", false, x -> x.end(-1));
        some("end", false, x -> x.end(30));
        some("fill of the sea", false, x -> x.fill(0, 5, 5));
        some("dike on a work", NONE, x -> x.dike(12, 0, 13, 5));
        some("dike on the sea", NONE, x -> x.dike(0, 1, 12, 5));
        some("dike without sea", NONE, x -> x.dike(25, 24, 26, 5));
        some("dike without land", NONE, x -> x.dike(13, 1, 2, 5));
        some("layer on a breach", NONE, x -> x.layer(1, 5, 5));
        some("mill on a work", NONE, x -> x.mill(26, 27, 5, false));
        some("mill that may not be built", NONE, x -> x.mill(12, 13, 5, false));
        some("mill to far", NONE, x -> x.mill(48, 50, 5, false));
        some("sluice to land", NONE, x -> x.sluice(13, 25, 5));
        some("farm in the sea", NONE, x -> x.farm(48, 70));
        some("farm on a farm", NONE, x -> x.farm(35, 48));
        some("vote of one that said so", NONE, x -> x.vote(2, false));
        some("vote of one that is no holder", NONE, x -> x.vote(0, false));
        some("harvest again", NONE, SeaLand::harvest);
        some("pay again", NONE, x -> x.pay(0));
        some("pay without a span", NONE, x -> x.pay(3));
        some("choose none", 0, x -> x.choose(0));
        some("hours of none", 50, x -> x.hours(0));
        some("sow the same", false, x -> x.sow(1, 1));
        some("come again", false, x -> x.come(3));
        some("tear by nothing", true, x -> x.tear(3, 40, 0) == x.row(3, 40));
        refuse(RefusedTest::poor, "pay without coin", NONE, x -> x.pay(1));
    }

    private static SeaLand poor() {
        SeaLand x = some();
        x.contract(0, 4, 1000, 0);
        x.measure(4, 2000);
        for (int i = 0; i < 2 && x.count(10) >= 300; i++) {
            x.contract(0, 4, 1, 0);
            x.measure(5 + i, Math.min(2000, x.count(10) * 10 / 9 - 100));
            x.pay(5 + i);
        }
        due.is("poor", x.count(10) < 400, true);
        return x;
    }

    private static void full(String call, Object want, Asked asked) {
        refuse(RefusedTest::allFull, call, want, asked);
    }

    private static void full() {
        SeaLand x = allFull();
        int[] want = {30, 1, 30, x.count(3), x.count(4), x.count(5), 0, 60, 30, 30, 2000000000};
        for (int what = 0; what <= 10; what++) {
            due.is("full: count " + what, x.count(what), want[what]);
        }
        due.is("full: contracts", x.count(12), 40);
        full("feed", NONE, y -> y.feed(1, 2, 3, 4, 5));
        full("end", false, y -> y.end(401));
        full("storm", NONE, y -> y.storm(50, 60, 5));
        full("rain", NONE, y -> y.weather(true, 50, 5));
        full("wind", NONE, y -> y.weather(false, 50, 5));
        full("dike", MANY, y -> y.dike(42, 0, 54, 5));
        full("mill", MANY, y -> y.mill(42, 54, 5, true));
        full("sluice", MANY, y -> y.sluice(42, 0, 5));
        full("dike", NUMBER, y -> y.dike(42, 0, 54, 0));
        full("mill", NUMBER, y -> y.mill(42, 54, 0, true));
        full("sluice", NUMBER, y -> y.sluice(42, 0, 0));
        full("layer", NONE, y -> y.layer(0, 5, 5));
        full("coal", NUMBER, y -> y.coal(12, 1));
        full("settler", MANY, y -> y.settler(1, 1, 1, 1, false, false, 1));
        full("settler", NUMBER, y -> y.settler(1, 1, 1, 1, false, false, -1));
        full("farm", NONE, y -> y.farm(90, 90));
        full("contract", NONE, y -> y.contract(0, 1, 1, 1));
        full("job", NONE, y -> y.job(1, 1, 1, 1));
        full("coin", NUMBER, y -> y.coin(1));
        full("choose", 0, y -> y.choose(60));
        full("row", SUCH, y -> y.row(24, 0));
        full("tear", SUCH, y -> y.tear(24, 0, 1));
        full("back", false, SeaLand::back);
    }

    private static SeaLand atHourZero() {
        SeaLand x = new SeaLand();
        x.land(12, 20, 0, 2, 4);
        x.fill(13, 50, 500);
        x.dike(12, 0, 13, 5);
        return x;
    }

    private static SeaLand atLastHour() {
        SeaLand x = atHourZero();
        x.mill(15, 16, 5, true);
        x.coal(1, 10000);
        x.turn(1, true);
        x.weather(true, 39000, 1);
        for (int i = 0; i < 170; i++) {
            x.hours(240);
        }
        return x;
    }

    private static void firstAndLastHour() {
        refuse(RefusedTest::atHourZero, "keep at hour 0", false, SeaLand::keep);
        refuse(RefusedTest::atHourZero, "back without an image", false, SeaLand::back);
        refuse(RefusedTest::atHourZero, "row at hour 0", SUCH, x -> x.row(0, 0));
        refuse(RefusedTest::atHourZero, "hours of none", 0, x -> x.hours(0));
        refuse(RefusedTest::atLastHour, "no hour is left", 40000, x -> x.hours(1));
        refuse(RefusedTest::atLastHour, "no hour is left", 40000, x -> x.hours(240));
        refuse(RefusedTest::atLastHour, "hours", NUMBER, x -> x.hours(241));
        refuse(RefusedTest::atLastHour, "land", STATE, x -> x.land(0, 0, 0, 0, 0));
        refuse(RefusedTest::atLastHour, "back without an image", false, SeaLand::back);
    }

    /** What found() and propose() throw uses the tape up, and tells the fault; nothing else changes. */
    private static void tape() {
        due.says("a call that throws changes nothing but the TAPE, where it is used up");
        String[] texts = {"votes 7;out if age>21", "votes 7;out if agee>21"};
        for (String text : texts) {
            for (boolean founds : new boolean[] {true, false}) {
                SeaLand one = some();
                SeaLand other = some();
                Due.tape(one, text);
                String got = answer(one, founds ? SeaLand::found : SeaLand::propose);
                due.is("threw " + got, got.equals((text.equals(texts[0]) ? STATE : NUMBER).getName()), true);
                due.is("fault", one.fault(), text.equals(texts[0]) ? NONE : 15);
                due.is("used up", one.end(1), false);
                other.end(0);
                String seen = Seen.all(one).replaceAll("fault=-?\\d+", "");
                String first = difference(seen, Seen.all(other).replaceAll("fault=-?\\d+", ""));
                due.is("changed " + first, first.isEmpty(), true);
                String later = difference(future(one), future(other));
                due.is("changed what comes later: " + later, later.isEmpty(), true);
            }
        }
    }

    /** All these calls on one object, which still is as one that was never called so. */
    private static void manyAtOnce() {
        SeaLand one = some();
        SeaLand other = some();
        Asked[] all = {
            x -> x.land(0, 0, 0, 0, 0), x -> x.fill(0, 1, 1), x -> x.storm(2, 1, 1), x -> x.weather(true, 0, 21), x -> x.dike(12, 0, 13, 5),
            x -> x.layer(1, 1, 1), x -> x.mill(26, 27, 5, true), x -> x.sluice(13, 25, 5), x -> x.turn(0, true), x -> x.coal(0, 1),
            x -> x.work(9, 0), x -> x.seep(3, 0), x -> x.shut(0), x -> x.hours(241), x -> x.square(96, 0), x -> x.vote(2, true),
            x -> x.rules(9, 0), x -> x.why(0, 9), x -> x.settler(-1, 0, 0, 0, false, false, 0), x -> x.farm(0, 0), x -> x.worth(9),
            x -> x.choose(61), x -> x.sow(0, 9), x -> x.come(9), x -> x.harvest(), x -> x.who(0, 9), x -> x.arrears(99), x -> x.coin(-1),
            x -> x.contract(3, 1, 1, 1), x -> x.measure(0, 1), x -> x.yards(9, true), x -> x.pay(0), x -> x.lifts(-1, 0, 1, 0),
            x -> x.soonest(0, 1, 1), x -> x.levels(0, -1), x -> x.job(-1, 1, 1, 1), x -> x.order(-1, 0), x -> x.row(99, 0),
            x -> x.tear(99, 0, 1), x -> x.count(99), x -> x.end(-1), x -> x.lawLevel(-1), x -> x.mayBuild(-1), x -> x.sky(-1, 0)};
        for (Asked asked : all) {
            answer(one, asked);
        }
        alike("all of them", one, other);
    }
}
