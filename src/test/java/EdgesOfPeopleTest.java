/** The edges that the document names of settlers, farms and harvests: promises 30 to 38 and their terms. */
public final class EdgesOfPeopleTest {
    private static final int NONE = SeaLand.NONE;
    private static final Due due = new Due();

    public static void main(String[] args) {
        settlers();
        farms();
        worths();
        choosingNumbers();
        choosingOrder();
        choosingFarms();
        sowing();
        cropsBorne();
        harvestOfAll();
        harvestOncePerYear();
        paying();
        fines();
        coming();
        whoAsked();
        nearness();
        ranks();
        coinOfTheBoard();
        due.end();
    }

    private static SeaLand withFarms(String law, int farms) {
        SeaLand x = new SeaLand();
        Due.found(x, law);
        x.land(0, 95, 0, 0, 0);
        for (int i = 0; i < farms; i++) {
            x.farm(i, i);
        }
        return x;
    }

    private static int settle(SeaLand x, int sons, int coin, int drawn) {
        return x.settler(20, sons, coin, 0, false, false, drawn);
    }

    private static void settlers() {
        due.says("age (0 to 99), sons (0 to 20), coin (0 to 100000), cattle (0 to 100) or drawn are none; "
                + "UnsupportedOperationException: there are 60");
        due.numbers("age", 0, 99, n -> new SeaLand().settler(n, 0, 0, 0, false, false, 0));
        due.numbers("sons", 0, 20, n -> new SeaLand().settler(0, n, 0, 0, false, false, 0));
        due.numbers("coin", 0, 100000, n -> new SeaLand().settler(0, 0, n, 0, false, false, 0));
        due.numbers("cattle", 0, 100, n -> new SeaLand().settler(0, 0, 0, n, false, false, 0));
        due.says("with a number drawn by hand (0 to 999999)");
        due.numbers("drawn", 0, 999999, n -> new SeaLand().settler(0, 0, 0, 0, false, false, n));
        due.says("SETTLERS (at most 60, numbered from 0 on)");
        SeaLand x = new SeaLand();
        for (int i = 0; i < 60; i++) {
            due.is("settler", settle(x, 0, i, 0), i);
        }
        due.tooMany("a 61st", () -> settle(x, 0, 0, 0));
        due.wrongNumber("a 61st that is wrong", () -> settle(x, 21, 0, 0));
        due.is("60", x.count(7), 60);
        due.is("the last one", x.who(59, 1), 59);
        due.indices("who", 60, s -> x.who(s, 0));
    }

    private static void farms() {
        due.says("FARMS (at most 30, numbered from 0 on): rectangles of SQUARES; of LAND alone, none of another FARM");
        SeaLand x = withFarms("", 29);
        due.is("29", x.count(9), 29);
        due.is("the 30th", x.farm(90, 90), 29);
        due.says("A FARM: its number; NONE, and it does not come, if a SQUARE is SEA, or of a FARM, or there are 30");
        due.none("a 31st", x.farm(91, 91));
        due.is("30", x.count(9), 30);
        due.none("none came", x.square(91, 9));
        due.indices("farm from", 96, s -> x.farm(s, 5));
        due.indices("farm to", 96, s -> x.farm(5, s));
        for (int[] corners : new int[][] {{14, 40}, {40, 14}, {16, 38}, {38, 16}}) {
            for (int sea = 0; sea < 96; sea++) {
                SeaLand y = new SeaLand();
                for (int s = 0; s < 96; s++) {
                    if (s != sea) {
                        y.land(s, s, 0, 0, 0);
                    }
                }
                boolean in = sea % 12 >= 2 && sea % 12 <= 4 && sea / 12 >= 1 && sea / 12 <= 3;
                due.is("sea at " + sea, y.farm(corners[0], corners[1]), in ? NONE : 0);
                due.is("farms", y.count(9), in ? 0 : 1);
                due.is("a square of it", y.square(15, 9), in ? NONE : 0);
                SeaLand z = new SeaLand();
                z.land(0, 95, 0, 0, 0);
                z.farm(sea, sea);
                due.is("a farm at " + sea, z.farm(corners[0], corners[1]), in ? NONE : 1);
                due.is("the corner", z.square(corners[0], 9), in ? (sea == corners[0] ? 0 : NONE) : 1);
            }
        }
        SeaLand w = new SeaLand();
        w.land(0, 95, 0, 0, 0);
        due.is("all there is", w.farm(0, 95), 0);
        due.none("no room", w.farm(50, 50));
    }

    private static int worthOf(int soil, int salt) {
        SeaLand x = new SeaLand();
        x.land(0, 0, 0, soil, 0);
        x.farm(0, 0);
        x.fill(0, 0, salt);
        return x.worth(0);
    }

    private static void worths() {
        due.says("WORTH of a FARM: of each of its SQUARES 100, 150 or 60 (by SOIL), less SALT by 100 (rounded down), 0 at least, together");
        int[] full = {100, 150, 60};
        for (int soil = 0; soil < 3; soil++) {
            due.is("full", worthOf(soil, 0), full[soil]);
            due.is("99", worthOf(soil, 99), full[soil]);
            due.is("100", worthOf(soil, 100), full[soil] - 1);
            due.is("199", worthOf(soil, 199), full[soil] - 1);
            due.is("one left", worthOf(soil, 100 * full[soil] - 1), 1);
            due.is("0", worthOf(soil, 100 * full[soil]), 0);
            due.is("0 at least", worthOf(soil, 100000), 0);
        }
        SeaLand x = new SeaLand();
        x.land(0, 1, 0, 0, 0);
        x.farm(0, 1);
        x.fill(0, 0, 100000);
        due.is("each by itself", x.worth(0), 100);
        due.indices("worth", 1, f -> x.worth(f));
    }

    private static void choosingNumbers() {
        due.says("CHOSEN: how many became HOLDERS. IllegalArgumentException: n is not 0 to 60");
        due.numbers("choose", 0, 60, n -> new SeaLand().choose(n));
        due.is("nobody", withFarms("", 3).choose(60), 0);
        SeaLand x = withFarms("", 3);
        for (int i = 0; i < 5; i++) {
            settle(x, 0, 0, i);
        }
        due.is("none", x.choose(0), 0);
        due.is("none holds", x.count(8), 0);
        due.is("one", x.choose(1), 1);
        due.is("holders", x.count(8), 1);
        due.is("as long as there are any farms", x.choose(60), 2);
        due.is("holders", x.count(8), 3);
        due.is("no farm is left", x.choose(60), 0);
        x.farm(50, 50);
        due.is("a farm more", x.choose(60), 1);
        SeaLand y = withFarms("", 30);
        for (int i = 0; i < 60; i++) {
            settle(y, 0, 0, 60 - i);
        }
        due.is("thirty farms", y.choose(60), 30);
        due.is("the least drawn number, the first farm", y.who(59, 0), 0);
        due.is("the last", y.who(30, 0), 29);
        due.none("none left", y.who(29, 0));
        SeaLand z = withFarms("", 3);
        settle(z, 0, 0, 0);
        due.is("one alone", z.choose(60), 1);
        due.is("a holder is not chosen again", z.choose(60), 0);
    }

    private static void choosingOrder() {
        due.says("by MARK (the greatest first), of several alike by the drawn number (the least first), then by their own number");
        int[][] people = {{3, 5}, {1, 0}, {3, 4}, {0, 0}, {3, 4}, {1, 999999}, {3, 5}};
        int[] want = {2, 4, 0, 6, 1, 5, 3};
        SeaLand x = withFarms("mark 1 if sons>0;mark 1 if sons>1;mark 1 if sons>2", 7);
        for (int[] one : people) {
            settle(x, one[0], 0, one[1]);
        }
        for (int i = 0; i < 7; i++) {
            due.is("one more", x.choose(1), 1);
            due.is("place " + i, x.who(want[i], 0), i);
        }
        SeaLand y = withFarms("mark 1 if sons>0;mark 1 if sons>1;mark 1 if sons>2", 7);
        for (int[] one : people) {
            settle(y, one[0], 0, one[1]);
        }
        due.is("all at once", y.choose(7), 7);
        for (int i = 0; i < 7; i++) {
            due.is("the same", y.who(want[i], 0), i);
        }
        due.says("of those that are no HOLDERS and not OUT the first n");
        SeaLand z = withFarms("mark 9 if sons>2;out if sons>2", 3);
        settle(z, 3, 0, 0);
        settle(z, 2, 0, 5);
        due.is("one, the other is out", z.choose(1), 1);
        due.none("out", z.who(0, 0));
        due.is("not out", z.who(1, 0), 0);
        due.is("none is left", z.choose(60), 0);
    }

    private static void choosingFarms() {
        due.says("each, in this order, takes of the FARMS that nobody has that of the greatest WORTH (of several the least number), "
                + "as long as there are any: it is a HOLDER");
        SeaLand x = new SeaLand();
        x.land(0, 11, 0, 0, 0);
        x.land(2, 2, 0, 1, 0);
        x.land(3, 3, 0, 2, 0);
        x.land(4, 4, 0, 1, 0);
        for (int i = 0; i < 5; i++) {
            x.farm(i, i);
        }
        x.fill(0, 0, 100000);
        for (int i = 0; i < 5; i++) {
            settle(x, 0, 0, i);
        }
        x.choose(5);
        int[] want = {2, 4, 1, 3, 0};
        for (int i = 0; i < 5; i++) {
            due.is("settler " + i, x.who(i, 0), want[i]);
        }
    }

    private static void sowing() {
        due.says("CROPS: 0 none (at first), 1 grass");
        due.says("A CROP on a FARM: whether it was another one. IllegalArgumentException: it is none");
        SeaLand x = withFarms("", 2);
        due.is("none at first", x.sow(0, 0), false);
        due.numbers("crop", 0, 3, n -> x.sow(0, n));
        due.is("the same", x.sow(0, 3), false);
        due.is("another one", x.sow(0, 2), true);
        due.is("the other farm has none", x.sow(1, 0), false);
        due.indices("sow", 2, f -> x.sow(f, 1));
        due.wrongIndex("neither", () -> x.sow(2, 4));
        due.is("nobody needs to have it", x.count(8), 0);
    }

    /** What one square brings, with that many wet days and that SALT. */
    private static int brought(int crop, int wet, int salt) {
        SeaLand x = withFarms("", 1);
        settle(x, 0, 0, 0);
        x.choose(1);
        x.sow(0, crop);
        x.fill(0, 1, 0);
        for (int day = 0; day < wet; day++) {
            x.hours(24);
        }
        x.fill(0, 0, salt);
        due.is("wet days", x.square(0, 8), wet);
        return x.harvest();
    }

    private static void cropsBorne() {
        due.says("1 grass: bears 60 wet days, SALT up to 4000, brings 20; 2 barley: 20, 2000, 50; 3 rape: 10, 8000, 40 (of a SQUARE)");
        due.says("brings its crop's, if its WET days and SALT are borne, half of it (rounded down) if one of them is not, nothing if both are not");
        int[][] crops = {{60, 4000, 20}, {20, 2000, 50}, {10, 8000, 40}};
        for (int crop = 1; crop <= 3; crop++) {
            int wet = crops[crop - 1][0];
            int salt = crops[crop - 1][1];
            int full = crops[crop - 1][2];
            due.is("both at the edge", brought(crop, wet, salt), full);
            due.is("one wet day more", brought(crop, wet + 1, salt), full / 2);
            due.is("one salt more", brought(crop, wet, salt + 1), full / 2);
            due.is("both", brought(crop, wet + 1, salt + 1), 0);
            due.is("neither wet nor salt", brought(crop, 0, 0), full);
            due.is("much salt", brought(crop, 0, 100000), full / 2);
        }
        due.is("no crop", brought(0, 0, 0), 0);
        due.is("no crop, wet and salt", brought(0, 61, 100000), 0);
    }

    private static void harvestOfAll() {
        due.says("HARVEST: what all brought together; NONE, and nothing happens");
        due.says("each SQUARE of a FARM that a HOLDER has");
        SeaLand x = withFarms("", 3);
        settle(x, 0, 7, 0);
        x.choose(1);
        for (int i = 0; i < 3; i++) {
            x.sow(i, 2);
        }
        due.is("that of the holder alone", x.harvest(), 50);
        due.says("what comes is the HOLDER's gain and coin");
        due.is("gain", x.who(0, 2), 50);
        due.is("coin", x.who(0, 1), 57);
        due.says("WET is 0 then for all LAND");
        SeaLand y = withFarms("", 1);
        y.fill(0, 1, 0);
        y.fill(95, 1, 0);
        y.hours(48);
        due.is("wet", y.square(95, 8), 2);
        due.is("nobody", y.harvest(), 0);
        due.is("of a farm", y.square(0, 8), 0);
        due.is("of none", y.square(95, 8), 0);
        due.none("it was one", y.harvest());
        due.is("no farms, no settlers", new SeaLand().harvest(), 0);
    }

    private static void goTo(SeaLand x, int hour) {
        while (x.count(0) < hour) {
            x.hours(Math.min(240, hour - x.count(0)));
        }
    }

    private static void harvestOncePerYear() {
        due.says("NONE, and nothing happens, if there was one in this year (DAY by 360, rounded down)");
        SeaLand x = withFarms("dues 5", 1);
        settle(x, 0, 7, 0);
        x.choose(1);
        x.sow(0, 2);
        x.fill(50, 1, 0);
        for (int year = 0; year < 4; year++) {
            due.is("the first of year " + year, x.harvest(), 50);
            x.hours(24);
            due.is("wet", x.square(50, 8), 1);
            x.come(0);
            due.none("the second", x.harvest());
            due.is("nothing happened: wet", x.square(50, 8), 1);
            due.is("nothing happened: coin", x.who(0, 1), 7 + 45 * (year + 1));
            due.is("nothing happened: came", x.come(0), false);
            goTo(x, (year * 360 + 359) * 24 + 23);
            due.none("on the last hour of the year", x.harvest());
            x.fill(50, 1, 0);
            x.hours(1);
        }
        due.is("the fifth year", x.count(1), 1440);
        due.is("the fifth year", x.harvest(), 50);
        goTo(x, 40000);
        due.none("to the last hour", x.harvest());
        due.says("HARVEST (of all FARMS, by hand, once a year of 360 days, at most)");
        SeaLand y = withFarms("", 1);
        settle(y, 0, 0, 0);
        y.choose(1);
        y.sow(0, 1);
        goTo(y, 359 * 24 + 23);
        due.is("at the end of a year", y.harvest(), 20);
        y.hours(1);
        due.is("and at the begin of the next", y.harvest(), 20);
    }

    private static void paying() {
        due.says("Each pays of its coin what it can, the oldest first (it is one sum): the rest is arrears; what is paid is the board's COIN");
        int[][] cases = {{0, 50, 0}, {49, 1, 0}, {50, 0, 0}, {51, 0, 1}};
        for (int[] one : cases) {
            SeaLand x = withFarms("dues 50", 1);
            settle(x, 0, one[0], 0);
            x.choose(1);
            x.harvest();
            due.is("arrears with " + one[0], x.who(0, 3), one[1]);
            due.is("coin with " + one[0], x.who(0, 1), one[2]);
            due.is("the board's", x.count(10), 50 - one[1]);
            due.is("arrears of all", x.count(11), one[1]);
            goTo(x, 360 * 24);
            x.sow(0, 2);
            x.harvest();
            due.is("arrears are paid, too", x.who(0, 3), Math.max(0, one[1] - one[2]));
            due.is("coin", x.who(0, 1), one[2]);
        }
        due.says("what comes is the HOLDER's gain and coin; then it owes DUES and GAIN by the LAW");
        SeaLand y = withFarms("gain 50;dues 1 if gain>49 and coin>49", 1);
        settle(y, 0, 0, 0);
        y.choose(1);
        y.sow(0, 2);
        y.harvest();
        due.is("by the gain of now", y.count(10), 26);
        SeaLand z = withFarms("dues 5", 1);
        settle(z, 0, 9, 0);
        settle(z, 0, 9, 1);
        z.choose(1);
        z.harvest();
        due.is("a holder owes", z.who(0, 1), 4);
        due.is("another one does not", z.who(1, 1), 9);
    }

    private static void fines() {
        due.says("a CALLED one that did not COME since the latest HARVEST owes FINE, too");
        for (int way = 0; way < 8; way++) {
            boolean called = (way & 1) == 1;
            boolean came = (way & 2) == 2;
            boolean fine = (way & 4) == 4;
            SeaLand x = withFarms((called ? "call;" : "") + (fine ? "fine 7;" : "") + "dues 1", 1);
            settle(x, 0, 0, 0);
            x.choose(1);
            if (came) {
                x.come(0);
            }
            x.harvest();
            due.is("way " + way, x.who(0, 3), called && !came && fine ? 8 : 1);
            goTo(x, 360 * 24);
            x.harvest();
            due.is("it did not come since", x.who(0, 3), (called && !came && fine ? 8 : 1) + (called && fine ? 8 : 1));
        }
    }

    private static void coming() {
        due.says("A SETTLER COMES to the dike: whether it is a HOLDER and did not since the latest HARVEST");
        SeaLand x = withFarms("", 1);
        settle(x, 0, 0, 0);
        settle(x, 0, 0, 1);
        x.choose(1);
        due.is("a holder", x.come(0), true);
        due.is("it did", x.come(0), false);
        due.is("no holder", x.come(1), false);
        due.indices("come", 2, s -> x.come(s));
        x.harvest();
        due.is("since the harvest", x.come(0), true);
        due.none("no harvest", x.harvest());
        due.is("that was none", x.come(0), false);
    }

    private static void whoAsked() {
        due.says("Of a SETTLER what 0 its FARM (NONE: no HOLDER), 1 coin, 2 gain, 3 arrears, 4 acres, 5 near. NoSuchElementException: another what");
        SeaLand x = new SeaLand();
        Due.found(x, "dues 200");
        x.land(0, 95, 0, 0, 0);
        x.farm(90, 90);
        x.farm(40, 53);
        settle(x, 0, 30, 0);
        settle(x, 0, 31, 0);
        due.whats("who", 5, n -> x.who(0, n));
        due.wrongIndex("neither", () -> x.who(2, 6));
        x.choose(1);
        x.sow(1, 1);
        x.harvest();
        int[][] want = {{1, 0, 80, 90, 4, 99}, {NONE, 31, 0, 0, 0, 99}};
        for (int s = 0; s < 2; s++) {
            for (int what = 0; what < 6; what++) {
                due.is("who(" + s + ", " + what + ")", x.who(s, what), want[s][what]);
            }
        }
    }

    private static void nearness() {
        due.says("near: steps from the nearest of these to the nearest DIKE or BREACH (99 without one, or FARM)");
        SeaLand x = new SeaLand();
        x.land(1, 95, 0, 0, 0);
        x.farm(94, 95);
        settle(x, 0, 0, 0);
        due.is("no farm, no dike", x.who(0, 5), 99);
        x.choose(1);
        due.is("no dike", x.who(0, 5), 99);
        x.dike(1, 0, 2, 5);
        due.is("from 94", x.who(0, 5), 16);
        due.is("no farm", whoWithoutFarm(x), 99);
        x.storm(1, 1, 1);
        x.hours(1);
        due.is("a breach", x.count(3), 1);
        due.is("from a breach", x.who(0, 5), 16);
        SeaLand y = new SeaLand();
        y.land(12, 95, 0, 0, 0);
        y.farm(12, 13);
        settle(y, 0, 0, 0);
        y.choose(1);
        y.dike(13, 1, 14, 5);
        due.is("on it", y.who(0, 5), 0);
    }

    private static int whoWithoutFarm(SeaLand x) {
        return x.who(settle(x, 0, 0, 0), 5);
    }

    private static void ranks() {
        due.says("RANK of arrears: HOLDERS that owe, the most first, of several alike the least number");
        due.says("The one of RANK n (from 0 on) in arrears; NONE if there is none such");
        due.none("nobody", new SeaLand().arrears(0));
        int[] sons = {1, 3, 0, 3, 2, 1};
        int[] want = {1, 3, 4, 0, 5};
        SeaLand x = withFarms("dues 1 if sons>0;dues 1 if sons>1;dues 1 if sons>2", 6);
        for (int i = 0; i < 6; i++) {
            settle(x, sons[i], 0, i);
        }
        x.choose(6);
        due.none("nobody owes", x.arrears(0));
        x.harvest();
        for (int i = 0; i < 5; i++) {
            due.is("rank " + i, x.arrears(i), want[i]);
        }
        for (int none : new int[] {5, 6, 59, 60, -1, Integer.MAX_VALUE, Integer.MIN_VALUE}) {
            due.none("rank " + none, x.arrears(none));
        }
    }

    private static void coinOfTheBoard() {
        due.says("(0 at first; to 2000000000: what a HARVEST brings above is lost)");
        for (int room = 0; room <= 3; room++) {
            SeaLand x = withFarms("dues 1", 2);
            settle(x, 0, 1, 0);
            settle(x, 0, 1, 1);
            x.choose(2);
            for (int i = 0; i < 2000; i++) {
                x.coin(i == 0 ? 1000000 - room : 1000000);
            }
            due.is("coin", x.count(10), 2000000000 - room);
            x.harvest();
            due.is("two come, room for " + room, x.count(10), 2000000000 - Math.max(0, room - 2));
            due.is("paid all the same", x.who(0, 1) + x.who(1, 1), 0);
            due.is("no arrears", x.count(11), 0);
        }
    }
}
