/** Promises 30 to 38: settlers, farms, choosing, crops, harvests and arrears. */
public final class PeopleTest {
    private static final Due due = new Due();

    public static void main(String[] args) {
        settlers();
        farms();
        worth();
        choosing();
        sowing();
        crops();
        harvest();
        fines();
        coming();
        years();
        near();
        ranks();
        coinAtMost();
        due.end();
    }

    private static void settlers() {
        SeaLand x = new SeaLand();
        due.wrongNumber("age", () -> x.settler(100, 0, 0, 0, false, false, 0));
        due.wrongNumber("age", () -> x.settler(-1, 0, 0, 0, false, false, 0));
        due.wrongNumber("sons", () -> x.settler(0, 21, 0, 0, false, false, 0));
        due.wrongNumber("sons", () -> x.settler(0, -1, 0, 0, false, false, 0));
        due.wrongNumber("coin", () -> x.settler(0, 0, 100001, 0, false, false, 0));
        due.wrongNumber("coin", () -> x.settler(0, 0, -1, 0, false, false, 0));
        due.wrongNumber("cattle", () -> x.settler(0, 0, 0, 101, false, false, 0));
        due.wrongNumber("cattle", () -> x.settler(0, 0, 0, -1, false, false, 0));
        due.wrongNumber("drawn", () -> x.settler(0, 0, 0, 0, false, false, 1000000));
        due.wrongNumber("drawn", () -> x.settler(0, 0, 0, 0, false, false, -1));
        due.is("none came", x.count(7), 0);
        due.is("edges", x.settler(99, 20, 100000, 100, true, true, 999999), 0);
        for (int i = 1; i < 60; i++) {
            due.is("settler", x.settler(0, 0, i, 0, false, false, 0), i);
        }
        due.tooMany("a 61st", () -> x.settler(0, 0, 0, 0, false, false, 0));
        due.wrongNumber("a wrong 61st", () -> x.settler(0, 0, -1, 0, false, false, 0));
        due.is("60", x.count(7), 60);
        int[] want = {-1, 7, 0, 0, 0, 99};
        for (int what = 0; what < 6; what++) {
            due.is("who(7, " + what + ")", x.who(7, what), want[what]);
        }
        due.nothingSuch("who 6", () -> x.who(0, 6));
        due.nothingSuch("who -1", () -> x.who(0, -1));
        due.wrongIndex("who none", () -> x.who(60, 9));
        due.wrongIndex("who none", () -> x.who(-1, 0));
    }

    private static void farms() {
        SeaLand x = new SeaLand();
        x.land(0, 95, 0, 0, 0);
        due.is("a farm", x.farm(13, 26), 0);
        due.is("its squares", x.square(25, 9), 0);
        due.none("not its square", x.square(27, 9));
        due.none("of a farm", x.farm(26, 39));
        due.none("nothing of it came", x.square(39, 9));
        due.is("corners the other way", x.farm(39, 28), 1);
        due.is("27", x.square(27, 9), 1);
        due.is("40", x.square(40, 9), 1);
        for (int i = 2; i < 30; i++) {
            due.is("farm", x.farm(46 + i, 46 + i), i);
        }
        due.none("a 31st", x.farm(90, 90));
        due.is("30", x.count(9), 30);
        due.wrongIndex("from", () -> x.farm(96, 0));
        due.wrongIndex("to", () -> x.farm(0, -1));
        SeaLand y = new SeaLand();
        y.land(0, 13, 0, 0, 0);
        due.none("sea", y.farm(0, 2));
        due.none("sea alone", y.farm(50, 50));
        due.none("sea at the first square", new SeaLand().farm(0, 0));
        due.is("land", y.farm(0, 13), 0);
        due.wrongIndex("worth of none", () -> y.worth(1));
        due.wrongIndex("worth of none", () -> y.worth(-1));
    }

    private static void worth() {
        SeaLand x = new SeaLand();
        x.land(0, 0, 0, 0, 0);
        x.land(1, 1, 0, 1, 0);
        x.land(2, 2, 0, 2, 0);
        x.farm(0, 2);
        due.is("by soil", x.worth(0), 310);
        x.fill(0, 0, 199);
        due.is("a hundredth rounded down", x.worth(0), 309);
        x.fill(2, 0, 7000);
        due.is("0 at least", x.worth(0), 249);
        x.fill(1, 0, 15000);
        due.is("each by itself", x.worth(0), 99);
    }

    private static void choosing() {
        SeaLand x = new SeaLand();
        Due.found(x, "mark 5 if sons>1;mark 1 if kin>0;out if age>70");
        x.land(0, 11, 0, 0, 0);
        x.land(3, 3, 0, 1, 0);
        x.settler(20, 0, 0, 0, false, false, 5);
        x.settler(20, 2, 0, 0, false, false, 9);
        x.settler(71, 3, 0, 0, true, false, 0);
        x.settler(20, 2, 0, 0, false, false, 8);
        x.settler(20, 2, 0, 0, false, false, 8);
        x.settler(20, 0, 0, 0, true, false, 99);
        due.is("no farms", x.choose(60), 0);
        x.farm(0, 0);
        x.farm(1, 1);
        x.farm(2, 3);
        x.farm(4, 4);
        due.is("none", x.choose(0), 0);
        due.is("two", x.choose(2), 2);
        due.is("the best farm", x.who(3, 0), 2);
        due.is("of several the least", x.who(4, 0), 0);
        due.none("not yet", x.who(1, 0));
        due.is("holders", x.count(8), 2);
        due.is("as long as there are farms", x.choose(5), 2);
        due.is("next", x.who(1, 0), 1);
        due.is("by mark", x.who(5, 0), 3);
        due.none("no farm left", x.who(0, 0));
        x.farm(5, 5);
        x.farm(6, 6);
        due.is("but one that is out", x.choose(60), 1);
        due.is("the last one", x.who(0, 0), 4);
        due.none("out", x.who(2, 0));
        due.is("holders", x.count(8), 5);
        due.is("acres", x.who(3, 4), 2);
        SeaLand y = new SeaLand();
        Due.found(y, "out if age > 70;mark 1 if age < 30");
        y.land(0, 0, 0, 0, 0);
        y.farm(0, 0);
        y.settler(71, 0, 0, 0, false, false, 0);
        y.settler(40, 0, 0, 0, false, false, 0);
        due.is("not the first, who is out", y.choose(1), 1);
        due.is("the second", y.who(1, 0), 0);
        due.is("its acres", y.who(1, 4), 1);
        due.is("its nearness", y.who(1, 5), 99);
        y.dike(0, 1, 12, 5);
        SeaLand z = new SeaLand();
        Due.found(z, "mark 1 if age < 30");
        z.land(0, 1, 0, 0, 0);
        z.farm(0, 0);
        z.settler(20, 0, 0, 0, false, false, 9);
        z.settler(40, 0, 0, 0, false, false, 0);
        z.choose(1);
        due.is("the first by its mark", z.who(0, 0), 0);
        z.dike(1, 2, 0, 5);
        due.is("near", z.who(0, 5), 1);
        due.wrongNumber("n", () -> x.choose(61));
        due.wrongNumber("n", () -> x.choose(-1));
    }

    private static void sowing() {
        SeaLand x = new SeaLand();
        x.land(0, 0, 0, 0, 0);
        x.farm(0, 0);
        due.is("none already", x.sow(0, 0), false);
        due.is("another", x.sow(0, 3), true);
        due.is("the same", x.sow(0, 3), false);
        due.is("none again", x.sow(0, 0), true);
        due.wrongIndex("no farm", () -> x.sow(1, 9));
        due.wrongIndex("no farm", () -> x.sow(-1, 0));
        due.wrongNumber("no crop", () -> x.sow(0, 4));
        due.wrongNumber("no crop", () -> x.sow(0, -1));
    }

    private static int brought(int crop, int wet, int salt) {
        SeaLand x = new SeaLand();
        x.land(0, 1, 0, 0, 0);
        x.farm(0, 1);
        x.settler(1, 1, 0, 0, false, false, 0);
        x.choose(1);
        x.sow(0, crop);
        x.fill(0, 1, 0);
        for (int day = 0; day < wet; day++) {
            x.hours(24);
        }
        due.is("wet", x.square(0, 8), wet);
        x.fill(0, 0, salt);
        x.fill(1, 0, 100000);
        int all = x.harvest();
        due.is("gain", x.who(0, 2), all);
        due.is("coin", x.who(0, 1), all);
        due.is("not wet", x.square(0, 8), 0);
        int[] half = {0, 10, 25, 20};
        return all - half[crop];
    }

    private static void crops() {
        due.is("none", brought(0, 0, 0), 0);
        due.is("grass", brought(1, 60, 4000), 20);
        due.is("grass wet", brought(1, 61, 4000), 10);
        due.is("grass salt", brought(1, 60, 4001), 10);
        due.is("grass both", brought(1, 61, 4001), 0);
        due.is("barley", brought(2, 20, 2000), 50);
        due.is("barley wet", brought(2, 21, 2000), 25);
        due.is("barley salt", brought(2, 0, 2001), 25);
        due.is("barley both", brought(2, 21, 2001), 0);
        due.is("rape", brought(3, 10, 8000), 40);
        due.is("rape wet", brought(3, 11, 8000), 20);
        due.is("rape salt", brought(3, 10, 8001), 20);
        due.is("rape both", brought(3, 11, 8001), 0);
    }

    private static void harvest() {
        SeaLand x = new SeaLand();
        Due.found(x, "dues 30;gain 15;dues 100 if gain > 100 and coin > 104 and owes < 1;dues 1000 if owes > 0");
        x.land(0, 5, 0, 0, 0);
        x.farm(0, 2);
        x.farm(3, 4);
        x.farm(5, 5);
        x.settler(1, 0, 5, 0, false, false, 1);
        x.settler(1, 0, 0, 0, false, false, 2);
        x.settler(1, 0, 777, 0, false, false, 3);
        x.choose(2);
        x.sow(0, 2);
        x.sow(1, 1);
        x.sow(2, 3);
        due.is("all", x.harvest(), 190);
        // 0: 5 + 150, owes 30 + 100 + 22; 1: 40, owes 30 + 6.
        due.is("coin 0", x.who(0, 1), 3);
        due.is("gain 0", x.who(0, 2), 150);
        due.is("owes 0", x.who(0, 3), 0);
        due.is("coin 1", x.who(1, 1), 4);
        due.is("gain 1", x.who(1, 2), 40);
        due.is("the board's", x.count(10), 188);
        due.is("no holder", x.who(2, 1), 777);
        due.none("once a year", x.harvest());
        due.is("nothing happened", x.who(0, 1), 3);
        due.is("dues and gain", x.rules(1, 0), 36);
        x.sow(0, 0);
        x.sow(1, 0);
        for (int i = 0; i < 36; i++) {
            x.hours(240);
        }
        due.is("the next year", x.harvest(), 0);
        // 0: 3, owes 30; 1: 4, owes 30.
        due.is("owes 0", x.who(0, 3), 27);
        due.is("owes 1", x.who(1, 3), 26);
        due.is("gain is the latest one's", x.who(0, 2), 0);
        due.is("all arrears", x.count(11), 53);
        due.is("coin 0", x.who(0, 1), 0);
        due.is("the board's", x.count(10), 195);
        x.sow(0, 2);
        for (int i = 0; i < 36; i++) {
            x.hours(240);
        }
        due.is("a year on", x.harvest(), 150);
        // 0: 150, owes 27 + 30 + 22 + 1000; the dues of 100 want no arrears.
        due.is("owes 0", x.who(0, 3), 27 + 30 + 22 + 1000 - 150);
        due.is("owes 1", x.who(1, 3), 26 + 30 + 1000);
        due.is("the board's", x.count(10), 345);
    }

    private static SeaLand called() {
        SeaLand x = new SeaLand();
        Due.found(x, "call if sons>0;fine 7;fine 2 if sons>1");
        x.land(0, 5, 0, 0, 0);
        for (int i = 0; i < 4; i++) {
            x.farm(i, i);
            x.settler(1, i, 0, 0, false, false, i);
        }
        x.choose(4);
        return x;
    }

    private static void fines() {
        SeaLand x = called();
        due.is("comes", x.come(1), true);
        due.is("harvest", x.harvest(), 0);
        due.is("not called", x.who(0, 3), 0);
        due.is("came", x.who(1, 3), 0);
        due.is("did not come", x.who(2, 3), 9);
        due.is("did not come", x.who(3, 3), 9);
        for (int i = 0; i < 36; i++) {
            x.hours(240);
        }
        due.is("anew", x.come(2), true);
        x.harvest();
        due.is("did not come since", x.who(1, 3), 7);
        due.is("came", x.who(2, 3), 9);
        due.is("arrears", x.who(3, 3), 18);
    }

    private static void coming() {
        SeaLand x = called();
        due.is("comes", x.come(0), true);
        due.is("again", x.come(0), false);
        due.is("another", x.come(3), true);
        x.harvest();
        due.is("since the harvest", x.come(0), true);
        due.is("again", x.come(0), false);
        x.settler(1, 1, 1, 1, false, false, 9);
        due.is("no holder", x.come(4), false);
        due.wrongIndex("none", () -> x.come(5));
        due.wrongIndex("none", () -> x.come(-1));
    }

    private static void years() {
        SeaLand x = new SeaLand();
        x.hours(1);
        x.keep();
        for (int i = 0; i < 35; i++) {
            x.hours(240);
        }
        x.hours(238);
        due.is("day 359", x.count(1), 359);
        due.is("no holders", x.harvest(), 0);
        due.none("once", x.harvest());
        x.hours(1);
        due.is("day 360", x.harvest(), 0);
        x.back();
        due.is("back", x.count(0), 1);
        due.none("there was one in this year", x.harvest());
        for (int i = 0; i < 36; i++) {
            x.hours(240);
        }
        due.none("and in this one", x.harvest());
        for (int i = 0; i < 36; i++) {
            x.hours(240);
        }
        due.is("not in this one", x.harvest(), 0);
        for (int i = 0; i < 36; i++) {
            x.hours(240);
        }
        due.is("year 3", x.harvest(), 0);
        for (int i = 0; i < 36; i++) {
            x.hours(240);
        }
        due.is("year 4", x.harvest(), 0);
        due.none("year 4", x.harvest());
    }

    private static void near() {
        SeaLand x = new SeaLand();
        x.land(12, 59, 0, 0, 0);
        x.settler(1, 1, 1, 1, false, false, 1);
        due.is("no farm", x.who(0, 5), 99);
        x.farm(40, 53);
        x.choose(1);
        due.is("no dike", x.who(0, 5), 99);
        x.dike(12, 0, 13, 5);
        due.is("steps", x.who(0, 5), 6);
        x.dike(20, 8, 19, 5);
        due.is("the nearest", x.who(0, 5), 5);
        x.dike(18, 6, 17, 5);
        due.is("from the nearest", x.who(0, 5), 3);
        x.mill(40, 41, 5, false);
        due.is("a mill is none", x.who(0, 5), 3);
        due.is("acres", x.who(0, 4), 4);
    }

    private static void ranks() {
        SeaLand x = new SeaLand();
        Due.found(x, "dues 5 if sons<2;dues 9 if sons>1 and sons<4");
        x.land(0, 11, 0, 0, 0);
        for (int i = 0; i < 6; i++) {
            x.farm(i, i);
            x.settler(1, i, 0, 0, false, false, i);
        }
        x.choose(5);
        due.none("none owes", x.arrears(0));
        x.harvest();
        int[] want = {2, 3, 0, 1, -1};
        for (int i = 0; i < 5; i++) {
            due.is("rank " + i, x.arrears(i), want[i]);
        }
        SeaLand y = new SeaLand();
        Due.found(y, "dues 1;dues 1 if sons>0");
        y.land(0, 11, 0, 0, 0);
        for (int i = 0; i < 2; i++) {
            y.farm(i, i);
            y.settler(1, i, 0, 0, false, false, i);
        }
        y.choose(2);
        y.harvest();
        due.is("2 are more", y.arrears(0), 1);
        due.is("than 1", y.arrears(1), 0);
        due.none("below", x.arrears(-1));
        due.none("far", x.arrears(Integer.MAX_VALUE));
    }

    private static void coinAtMost() {
        SeaLand x = new SeaLand();
        x.land(0, 0, 0, 0, 0);
        x.farm(0, 0);
        Due.found(x, "dues 300");
        x.settler(1, 1, 1000, 1, false, false, 1);
        x.choose(1);
        for (int i = 0; i < 2000; i++) {
            x.coin(i == 1999 ? 999900 : 1000000);
        }
        due.is("coin", x.count(10), 1999999900);
        due.wrongNumber("too much", () -> x.coin(101));
        x.harvest();
        due.is("what is above is lost", x.count(10), 2000000000);
        due.is("paid all the same", x.who(0, 1), 700);
        due.is("nothing comes", x.coin(0), 2000000000);
        due.wrongNumber("too much", () -> x.coin(1));
    }
}
