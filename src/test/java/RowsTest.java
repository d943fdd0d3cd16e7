/** Promises 50 to 55: rows, the image, and counts. */
public final class RowsTest {
    private static final Due due = new Due();

    public static void main(String[] args) {
        rows();
        torn();
        whatIsTold();
        image();
        imageOfWorks();
        imageOfTheSky();
        due.end();
    }

    private static void rows() {
        SeaLand x = new SeaLand();
        x.land(0, 0, -10, 2, 0);
        x.weather(true, 0, 1);
        x.tide(3, 77);
        due.nothingSuch("no row", () -> x.row(0, 0));
        due.none("nothing to check", x.check());
        x.hours(3);
        due.is("rows", x.count(17), 3);
        due.is("first", x.row(0, 0), -9);
        due.is("third", x.row(2, 0), -7);
        due.is("the sea of then", x.row(2, 95), 77);
        due.is("the sea of then", x.row(0, 95), 0);
        due.nothingSuch("no row", () -> x.row(3, 0));
        due.nothingSuch("no row", () -> x.row(-1, 0));
        due.wrongIndex("no square", () -> x.row(9, 96));
        due.wrongIndex("no square", () -> x.row(0, -1));
        x.hours(27);
        due.is("24 at most", x.count(17), 24);
        due.is("the latest", x.row(23, 0), 20);
        due.is("the oldest", x.row(0, 0), -3);
        due.none("as due", x.check());

        SeaLand y = new SeaLand();
        y.land(0, 0, 5, 2, 0);
        y.hours(72);
        due.is("ahead of the end", y.row(22, 0), 5);
        due.is("sunk at the end of the day", y.row(23, 0), 4);
        due.is("no hours, the rows stay", y.hours(0), 72);
        due.is("rows", y.count(17), 24);
        y.sow(y.farm(0, 0), 1);
        y.harvest();
        y.coin(5);
        due.is("the rows stay", y.count(17), 24);
    }

    private static void torn() {
        SeaLand x = new SeaLand();
        x.land(0, 0, -10, 2, 0);
        x.hours(30);
        due.is("torn", x.tear(5, 3, 6), 6);
        due.is("it is so", x.row(5, 3), 6);
        due.is("check", x.check(), 96 * 5 + 3);
        due.is("torn by nothing", x.tear(1, 1, 0), 0);
        due.is("check", x.check(), 96 * 5 + 3);
        due.is("the very first", x.tear(0, 0, 1), -9);
        due.is("check", x.check(), 0);
        due.is("the very first", x.tear(0, 0, 1), -10);
        due.is("torn earlier", x.tear(2, 95, -1), -1);
        due.is("check", x.check(), 96 * 2 + 95);
        due.is("torn in the same row", x.tear(2, 0, Integer.MIN_VALUE), -10 ^ Integer.MIN_VALUE);
        due.is("check", x.check(), 96 * 2);
        due.is("mended", x.tear(2, 0, Integer.MIN_VALUE), -10);
        due.is("mended", x.tear(2, 95, -1), 0);
        due.is("check", x.check(), 96 * 5 + 3);
        x.hours(2);
        due.is("it moves up", x.check(), 96 * 3 + 3);
        due.is("the land is not torn", x.square(3, 6), 0);
        x.hours(4);
        due.none("it is gone", x.check());
        due.nothingSuch("no row", () -> x.tear(24, 0, 1));
        due.nothingSuch("no row", () -> x.tear(-1, 0, 1));
        due.wrongIndex("no square", () -> x.tear(99, 96, 1));
        x.tear(0, 0, 1);
        x.tide(0, 0);
        due.none("told anew", x.check());
    }

    private static void gone(String call, SeaLand x, boolean gone) {
        due.is("rows behind " + call, x.count(17), gone ? 0 : 1);
        x.tide(0, 0);
        x.hours(1);
        due.is("rows", x.count(17), 1);
    }

    private static void whatIsTold() {
        SeaLand x = new SeaLand();
        x.land(13, 16, 0, 0, 0);
        x.hours(1);
        x.fill(13, 1, 1);
        gone("fill", x, true);
        x.fill(0, 1, 1);
        gone("fill of the sea", x, false);
        x.storm(0, 0, 1);
        gone("storm", x, true);
        x.weather(true, 40000, 1);
        gone("rain", x, true);
        x.weather(false, 40000, 1);
        gone("wind", x, true);
        x.dike(13, 12, 14, 5);
        gone("dike", x, true);
        x.dike(13, 12, 14, 5);
        gone("no dike", x, false);
        x.layer(0, 5, 5);
        gone("layer", x, true);
        x.mill(14, 15, 5, true);
        gone("engine", x, true);
        x.turn(1, true);
        gone("turn", x, true);
        x.coal(1, 1);
        gone("coal", x, true);
        x.sluice(15, 3, 5);
        gone("sluice", x, true);
        x.seep(0, 0);
        x.contract(0, 1, 1, 1);
        x.choose(5);
        x.job(1, 1, 1, 1);
        x.lifts(1, 1, 1, 1);
        gone("what tells nothing", x, false);
        for (int i = 0; i < 7; i++) {
            x.layer(0, 1, 1);
        }
        x.tide(0, 0);
        x.hours(1);
        x.layer(0, 1, 1);
        gone("a 7th layer", x, false);
        due.wrongNumber("wrong", () -> x.fill(13, -1, 0));
        gone("a wrong call", x, false);
        x.keep();
        gone("keep", x, false);
        x.back();
        gone("back", x, true);
        x.storm(0, 40000, 500);
        x.hours(1);
        due.is("a breach", x.work(0, 0), 1);
        due.is("rows", x.count(17), 1);
        x.shut(0);
        due.is("rows behind shut", x.count(17), 0);
    }

    private static void image() {
        SeaLand x = new SeaLand();
        due.is("not at hour 0", x.keep(), false);
        due.is("none kept", x.back(), false);
        x.land(13, 13, 0, 2, 0);
        x.land(14, 15, -50, 2, 4);
        x.dike(13, 12, 14, 50);
        x.layer(0, 10, 2);
        x.mill(15, 16, 5, true);
        x.coal(1, 100);
        x.turn(1, true);
        x.weather(true, 10, 1);
        x.hours(30);
        due.is("kept", x.keep(), true);
        String then = shown(x);
        due.is("back at once", x.back(), true);
        due.is("the same", shown(x).equals(then), true);
        x.hours(50);
        x.fill(15, 500, 3000);
        x.layer(0, 5, 1);
        x.turn(1, false);
        x.coal(1, 7);
        x.sluice(14, 2, 5);
        x.storm(81, 90, 400);
        x.hours(20);
        due.is("a breach", x.count(3), 1);
        int farm = x.farm(14, 15);
        x.settler(1, 1, 1, 1, false, false, 1);
        x.choose(1);
        x.coin(99);
        x.job(1, 1, 1, 1);
        x.contract(0, 1, 1, 1);
        due.is("another", shown(x).equals(then), false);
        due.is("back", x.back(), true);
        due.is("as it was", shown(x).equals(then), true);
        due.is("no rows", x.count(17), 0);
        due.is("the farm stays", x.square(14, 9), farm);
        due.is("the people stay", x.count(8), 1);
        due.is("the coin stays", x.count(10), 99);
        due.is("contracts stay", x.count(12), 1);
        due.is("jobs stay", x.jobs(), 1);
        x.hours(1);
        String later = shown(x);
        x.back();
        x.hours(1);
        due.is("the same hours", shown(x).equals(later), true);
        due.is("kept anew", x.keep(), true);
        x.hours(5);
        x.back();
        due.is("the later one", shown(x).equals(later), true);
        due.is("again and again", x.back(), true);
    }

    private static void imageOfWorks() {
        SeaLand x = new SeaLand();
        x.land(13, 16, -10, 0, 0);
        x.dike(13, 12, 14, 5);
        x.hours(3);
        due.is("width", x.work(0, 5), 8);
        x.keep();
        x.hours(3);
        due.is("width", x.work(0, 5), 14);
        x.back();
        due.is("width of then", x.work(0, 5), 8);
        x.mill(15, 16, 5, true);
        x.coal(1, 5);
        x.turn(1, true);
        x.fill(15, 50, 0);
        x.hours(1);
        due.is("lifted", x.work(1, 4), 5);
        x.back();
        due.wrongIndex("gone", () -> x.work(1, 0));
        due.none("gone", x.square(15, 10));
        due.is("built anew", x.mill(16, 15, 9, true), 1);
        int[] want = {3, 16, 0, 0, 0, 9, 0, 0};
        for (int what = 0; what < 8; what++) {
            due.is("anew " + what, x.work(1, what), want[what]);
        }
        x.back();
        x.dike(15, 3, 14, 7);
        x.layer(1, 5, 5);
        x.back();
        x.dike(15, 3, 14, 7);
        due.is("no layers", x.work(1, 6), 0);
        due.is("crest", x.work(1, 5), -10);
    }

    private static void imageOfTheSky() {
        SeaLand x = new SeaLand();
        x.hours(1);
        x.tide(3, 5);
        x.storm(3, 9, 10);
        x.weather(false, 4, 2);
        x.weather(true, 4, 3);
        x.keep();
        x.tide(3, 7);
        x.storm(3, 9, 20);
        x.weather(false, 4, 5);
        x.weather(false, 5, 5);
        x.weather(true, 4, 6);
        x.back();
        due.is("outside", x.sky(3, 0), 15);
        due.is("wind", x.sky(4, 1), 2);
        due.is("wind", x.sky(5, 1), 2);
        due.is("rain", x.sky(4, 2), 3);
        due.is("one storm", x.storm(0, 0, 1), 2);
        due.is("one telling", x.weather(false, 5, 5), 2);
        due.is("one telling", x.weather(true, 5, 5), 2);
    }

    private static String shown(SeaLand x) {
        StringBuilder all = new StringBuilder();
        for (int s = 0; s < 96; s++) {
            for (int what = 0; what <= 10; what++) {
                all.append(what == 9 ? 0 : x.square(s, what)).append(' ');
            }
        }
        for (int w = 0; w < x.count(2); w++) {
            for (int what = 0; what <= 7; what++) {
                all.append(x.work(w, what)).append(' ');
            }
        }
        for (int what : new int[] {0, 1, 2, 3, 4, 5, 13, 14, 15, 16}) {
            all.append(x.count(what)).append(' ');
        }
        for (int hour = 0; hour < 200; hour++) {
            all.append(x.sky(hour, 0)).append(' ').append(x.sky(hour, 1)).append(' ').append(x.sky(hour, 2));
        }
        return all.toString();
    }
}
