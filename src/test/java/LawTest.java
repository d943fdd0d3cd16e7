/** Promises 2, 3, 21 to 29: the tape, the texts of the law, and votes. */
public final class LawTest {
    private static final Due due = new Due();

    public static void main(String[] args) {
        tape();
        rightTexts();
        wrongTexts();
        lines();
        foundAndFault();
        facts();
        conditions();
        sumsAndWhy();
        levels();
        building();
        votes();
        proposals();
        due.end();
    }

    private static void tape() {
        SeaLand x = new SeaLand();
        due.is("end of none", x.end(0), true);
        due.is("end below", x.end(-1), false);
        due.is("end of more", x.end(1), false);
        for (int i = 1; i <= 20; i++) {
            due.is("feed", x.feed(0x20202020, 0x20202020, 0x20202020, 0x20202020, 0x20202020), 20 * i);
        }
        due.none("full", x.feed(0, 0, 0, 0, 0));
        due.is("end of all", x.end(400), true);
        due.is("end of more", x.end(401), false);
        due.is("end", x.end(381), true);
        due.none("20 are too many", x.feed(0, 0, 0, 0, 0));
        due.is("end", x.end(380), true);
        due.is("room", x.feed(0x6f757420, 0x206f7574, 0, -1, 0), 400);
        due.is("cut", x.end(383), true);
        due.is("the highest byte first", x.found(), 1);
        due.is("used up", x.feed(0x6f757420, 0x206f7574, 0, -1, 0), 20);
        due.is("cut", x.end(8), true);
        due.wrongNumber("two words", x::found);
        due.is("the second", x.fault(), 5);
        due.is("used up", x.end(1), false);
        x.feed(0x20202020, 0x20202020, 0x202020ff, 0, 0);
        due.wrongNumber("a byte 255", x::found);
        due.is("there", x.fault(), 11);
    }

    private static void right(String text, int lines) {
        SeaLand x = new SeaLand();
        due.is("'" + text + "'", Due.found(x, text), lines);
        due.none("fault of '" + text + "'", x.fault());
        due.is("lines of '" + text + "'", x.count(6), lines);
    }

    private static void rightTexts() {
        right("", 0);
        right("    ", 0);
        right("dues 5", 1);
        right("  dues  5  ;call;out;fine 0;mark 99999;votes 1;gain 100 ", 7);
        right("votes5", 1);
        right("dues 00005", 1);
        right("level 900 0 in 0 95", 1);
        right("level 0 900 in 95 0;pass 0;pass 100;bar 0;bar 18", 5);
        right("dues 5if age<3or sons>2and kin>0", 1);
        right("call if acres+gain+age+sons+coin+cattle+kin+board+near+owes>99999+1", 1);
        right("call if((((((age<3))))))", 1);
        right("call if not not not not not not age<3", 1);
        right("call if (not (not (not age<3 or age > 4) and 1 < 2)) and not (1<2)", 1);
        right("out if ( age < 3 ) or ( age > 4 )", 1);
    }

    private static void wrong(String text, int at) {
        SeaLand x = new SeaLand();
        Due.tape(x, text);
        due.wrongNumber("'" + text + "'", x::found);
        due.is("fault of '" + text + "'", x.fault(), at);
        Due.tape(x, text);
        due.wrongNumber("'" + text + "' proposed", x::propose);
        due.is("fault of '" + text + "' proposed", x.fault(), at);
        due.is("no lines", x.count(6), 0);
    }

    private static void wrongTexts() {
        wrong("dues", 4);
        wrong("dues  ", 6);
        wrong("dues 5 ;", 8);
        wrong("dues 5 ; ", 9);
        wrong(";", 0);
        wrong(" ;dues 5", 1);
        wrong("dues 5;;dues 5", 7);
        wrong("dues 5 dues 5", 7);
        wrong("dues 5 6", 7);
        wrong("dues 123456", 5);
        wrong("dues 000001", 5);
        wrong("dues -1", 5);
        wrong("dues x", 5);
        wrong("dues if age<3", 5);
        wrong("duess 5", 0);
        wrong("due 5", 0);
        wrong("Dues 5", 0);
        wrong("5", 0);
        wrong("call5", 4);
        wrong("call 5", 5);
        wrong("calls", 0);
        wrong("pass 101", 5);
        wrong("pass 5 if age<3", 7);
        wrong("pass", 4);
        wrong("bar 19", 4);
        wrong("level 901 0 in 0 0", 6);
        wrong("level 0 901 in 0 0", 8);
        wrong("level 0 0 on 0 0", 10);
        wrong("level 0 0 0 0", 10);
        wrong("level 0 0 in 96 0", 13);
        wrong("level 0 0 in 0 96", 15);
        wrong("level 0 0 in 0", 14);
        wrong("level 0 0 in 0 0 if 1<2", 17);
        wrong("call iff age<3", 5);
        wrong("call if", 7);
        wrong("call if ;out", 8);
        wrong("call if age", 11);
        wrong("call if age <", 13);
        wrong("call if age = 3", 12);
        wrong("call if age < 3 + ", 18);
        wrong("call if age + < 3", 14);
        wrong("call if age < 123456", 14);
        wrong("call if ages < 1", 8);
        wrong("call if agez < 1", 8);
        wrong("call if age < sun", 14);
        wrong("call if 1 < 2 < 3", 14);
        wrong("call if (age<3", 14);
        wrong("call if (age<3;out", 14);
        wrong("call if age<3)", 13);
        wrong("call if ()", 9);
        wrong("call if (age)<3", 12);
        wrong("call if not", 11);
        wrong("call if not and", 12);
        wrong("call if age<3 and", 17);
        wrong("call if age<3 or;", 16);
        wrong("call if age<3 and or age<3", 18);
        wrong("call if age<3 not age<3", 14);
        wrong("call if (((((((age<3)))))))", 14);
        wrong("call if not not not not not not not age<3", 32);
        wrong("call if not(not(not(not age<3)))", 20);
        wrong("call if (1<2) and not(not(not(x", 30);
        wrong("call\tif", 4);
        wrong("call if + < 3", 8);
        wrong("call if < < 3", 8);
        wrong(";".repeat(400), 0);
        wrong("call if " + "1+".repeat(196), 400);
        wrong("call if " + "1+".repeat(195) + "1<", 400);
        right("call if " + "1+".repeat(194) + "1<9", 1);
    }

    private static void lines() {
        StringBuilder twenty = new StringBuilder("out");
        for (int i = 1; i < 20; i++) {
            twenty.append(";out");
        }
        right(twenty.toString(), 20);
        wrong(twenty + ";", 80);
        wrong(twenty + "; out", 81);
        wrong(twenty + ";;", 80);
    }

    private static void foundAndFault() {
        SeaLand x = new SeaLand();
        due.is("found", Due.found(x, "out;call"), 2);
        Due.tape(x, "out;x");
        due.wrongNumber("wrong", x::found);
        due.is("fault", x.fault(), 4);
        due.is("the law stays", x.count(6), 2);
        due.is("the tape is used up", x.end(1), false);
        due.is("found anew", x.found(), 0);
        due.none("fault", x.fault());
        due.is("no lines", x.count(6), 0);
        x.land(0, 0, 0, 0, 0);
        x.farm(0, 0);
        x.settler(1, 1, 1, 1, true, true, 1);
        due.is("a holder", x.choose(1), 1);
        Due.tape(x, "out");
        due.wrongState("holders", x::found);
        due.none("the text was right", x.fault());
        due.is("used up", x.end(1), false);
        Due.tape(x, "nay");
        due.wrongNumber("wrong is told first", x::found);
        due.is("fault", x.fault(), 0);
        due.is("none in force", x.count(6), 0);
    }

    private static boolean holds(SeaLand x, int settler, String condition) {
        Due.found(x, "call if " + condition);
        return x.rules(settler, 4) == 1;
    }

    private static void facts() {
        SeaLand x = new SeaLand();
        x.settler(31, 2, 1000, 5, true, false, 7);
        x.settler(99, 20, 100000, 100, false, true, 7);
        String[] is = {"acres", "gain", "age", "sons", "coin", "cattle", "kin", "board", "near", "owes"};
        int[] of0 = {0, 0, 31, 2, 1000, 5, 1, 0, 99, 0};
        int[] of1 = {0, 0, 99, 20, 100000, 100, 0, 1, 99, 0};
        for (int i = 0; i < 10; i++) {
            String two = is[i] + "+" + is[i];
            due.is(is[i], holds(x, 0, two + " > " + halves(2 * of0[i]) + " or " + two + "<" + halves(2 * of0[i])), false);
            due.is(is[i], holds(x, 1, two + " > " + halves(2 * of1[i]) + " or " + two + "<" + halves(2 * of1[i])), false);
            due.is(is[i], holds(x, 0, is[i] + " + 1 > " + halves(of0[i])), true);
        }
        SeaLand y = new SeaLand();
        Due.found(y, "dues 203;mark 1 if acres>2 and acres<4;mark 10 if gain>149 and gain<151;"
                + "mark 100 if owes>52 and owes<54;mark 1000 if near>1 and near<3;mark 10000 if coin<1");
        y.land(0, 14, 0, 0, 0);
        y.farm(0, 2);
        y.dike(14, 26, 13, 1);
        y.settler(1, 1, 0, 1, false, false, 1);
        due.is("no facts yet", y.rules(0, 3), 10000);
        y.choose(1);
        y.sow(0, 2);
        y.harvest();
        due.is("near", y.who(0, 5), 1);
        due.is("of a holder", y.rules(0, 3), 10111);
    }

    private static String halves(int n) {
        return n / 2 > 99999 ? "99999+1+99999+1" : n / 2 + "+" + (n - n / 2);
    }

    private static void conditions() {
        SeaLand x = new SeaLand();
        x.settler(30, 2, 0, 0, false, false, 0);
        due.is("less", holds(x, 0, "age < 31"), true);
        due.is("not less", holds(x, 0, "age < 30"), false);
        due.is("more", holds(x, 0, "age > 29"), true);
        due.is("not more", holds(x, 0, "age > 30"), false);
        due.is("and binds first", holds(x, 0, "1<2 or 1<2 and 2<1"), true);
        due.is("brackets", holds(x, 0, "(1<2 or 1<2) and 2<1"), false);
        due.is("not binds one", holds(x, 0, "not 2<1 and 2<1"), false);
        due.is("not binds one", holds(x, 0, "not 1<2 or 1<2"), true);
        due.is("not of brackets", holds(x, 0, "not (1<2 or 1<2)"), false);
        due.is("not not", holds(x, 0, "not not 1<2"), true);
        due.is("sums", holds(x, 0, "age+sons+1<20+sons+11"), false);
        due.is("sums", holds(x, 0, "age+sons+1<20+sons+12"), true);
        due.is("not of more", holds(x, 0, "not age > 3"), false);
        due.is("more and more", holds(x, 0, "age > 3 and sons > 1 and not (age > 3 and sons > 2)"), true);
        due.is("deep", holds(x, 0, "2<1 or 1<2 and (2<1 or 1<2 and (2<1 or 1<2 and (2<1 or 1<2 and (2<1 or 1<2 and (2<1 or 1<2 and"
                + "(2<1 or 1<2 and 1+1+1 < 2+1+1))))))"), true);
        StringBuilder long0 = new StringBuilder("1<2");
        for (int i = 0; i < 60; i++) {
            long0.append(i % 2 == 0 ? "or 2<1" : "and 2<1");
        }
        for (int i = 0; i < 12; i++) {
            due.is("long", holds(x, 0, long0.substring(0, 380) + " or age > 30"), true);
            due.is("and at once a short one", holds(x, 0, "age > 30"), false);
            due.is("and another", holds(x, 0, "age < 31"), true);
        }
        due.is("out of brackets", holds(x, 0, "(((2<1))) or ((1<2) and (not(2<1)))"), true);
    }

    private static void sumsAndWhy() {
        SeaLand x = new SeaLand();
        x.settler(30, 2, 0, 0, true, false, 0);
        x.settler(60, 0, 0, 0, false, false, 0);
        due.is("found", Due.found(x, "dues 10;dues 5 if age>40;gain 50;votes 2 if sons>1;votes 3;fine 7 if kin>0;"
                + "mark 4;mark 6 if sons>1;call if age>40;out if kin>0;dues 1 if 2<1"), 11);
        int[][] rules = {{10, 5, 7, 10, 0, 1}, {15, 3, 0, 4, 1, 0}};
        int[][] why = {{0, 2, 3, 5, 6, -1, 9}, {0, 2, 4, -1, 6, 8, -1}};
        for (int s = 0; s < 2; s++) {
            for (int what = 0; what < 6; what++) {
                due.is("rules(" + s + ", " + what + ")", x.rules(s, what), rules[s][what]);
            }
            for (int what = 0; what < 7; what++) {
                due.is("why(" + s + ", " + what + ")", x.why(s, what), why[s][what]);
            }
        }
        due.nothingSuch("rules 6", () -> x.rules(0, 6));
        due.nothingSuch("rules -1", () -> x.rules(0, -1));
        due.nothingSuch("why 7", () -> x.why(0, 7));
        due.nothingSuch("why -1", () -> x.why(0, -1));
        due.wrongIndex("rules of none", () -> x.rules(2, 9));
        due.wrongIndex("why of none", () -> x.why(-1, 9));
        Due.found(x, "");
        for (int what = 0; what < 6; what++) {
            due.is("without law", x.rules(1, what), 0);
            due.none("without law", x.why(1, what));
        }
    }

    private static void levels() {
        SeaLand x = new SeaLand();
        due.is("without", x.lawLevel(0), 1000);
        Due.found(x, "level 100 90 in 13 26;level 0 5 in 27 14;level 7 8 in 35 24");
        due.is("outside", x.lawLevel(12), 1000);
        due.is("winter", x.lawLevel(13), -90);
        due.is("the last", x.lawLevel(14), -5);
        due.is("the last", x.lawLevel(15), -5);
        due.is("the whole line", x.lawLevel(24), -8);
        due.is("the whole line", x.lawLevel(26), -8);
        due.wrongIndex("no square", () -> x.lawLevel(96));
        due.wrongIndex("no square", () -> x.lawLevel(-1));
        for (int i = 0; i < 9; i++) {
            x.hours(239);
        }
        due.is("day 89", x.count(1), 89);
        due.is("winter", x.lawLevel(13), -90);
        x.hours(9);
        due.is("day 90", x.count(1), 90);
        due.is("summer", x.lawLevel(13), -100);
        due.is("summer of 0", x.lawLevel(14), 0);
        for (int i = 0; i < 18; i++) {
            x.hours(240);
        }
        due.is("day 270", x.lawLevel(13), -90);
        x.hours(240);
        for (int i = 0; i < 17; i++) {
            x.hours(240);
        }
        due.is("day 450", x.count(1), 450);
        due.is("the next summer", x.lawLevel(13), -100);
    }

    private static void building() {
        SeaLand x = new SeaLand();
        x.land(13, 16, 0, 0, 0);
        Due.found(x, "bar 18;bar 2");
        due.is("no dike", x.mayBuild(14), true);
        x.dike(13, 12, 14, 5);
        Due.found(x, "");
        due.is("no law", x.mayBuild(13), true);
        Due.found(x, "bar 18;bar 2");
        due.is("on it", x.mayBuild(13), false);
        due.is("beside", x.mayBuild(14), false);
        due.is("beside, the sea", x.mayBuild(1), false);
        due.is("two", x.mayBuild(15), true);
        due.is("two around a corner", x.mayBuild(26), true);
        Due.found(x, "bar 0");
        due.is("any", x.mayBuild(13), true);
        Due.found(x, "bar 17");
        due.is("16 off", x.mayBuild(95), false);
        Due.found(x, "bar 16");
        due.is("16 off", x.mayBuild(95), true);
        due.is("a little nearer", x.mayBuild(94), false);
        x.tide(1, 1);
        x.hours(1);
        due.is("a breach", x.work(0, 0), 1);
        due.is("counts too", x.mayBuild(94), false);
        due.wrongIndex("no square", () -> x.mayBuild(96));
        due.wrongIndex("no square", () -> x.mayBuild(-1));
    }

    private static SeaLand withHolders(String law, int holders) {
        SeaLand x = new SeaLand();
        Due.found(x, law);
        x.land(0, 11, 0, 0, 0);
        for (int i = 0; i < holders; i++) {
            x.farm(i, i);
            x.settler(20, i, 0, 0, false, false, 0);
        }
        x.choose(60);
        x.settler(20, 9, 0, 0, false, false, 0);
        return x;
    }

    private static void votes() {
        SeaLand x = withHolders("votes 1;votes 2 if sons>1;pass 60", 3);
        due.wrongState("no vote", () -> x.vote(0, true));
        due.wrongState("no vote", x::close);
        due.wrongIndex("none", () -> x.vote(4, true));
        due.is("propose", Due.propose(x, "votes 5;dues 1"), 2);
        due.wrongIndex("none", () -> x.vote(-1, true));
        due.is("not in force", x.count(6), 3);
        due.is("yes", x.vote(2, true), 3);
        due.none("once", x.vote(2, false));
        due.none("no holder", x.vote(3, true));
        due.is("no", x.vote(0, false), 1);
        due.is("no", x.vote(1, false), 1);
        due.is("3 of 5 are not above 60", x.close(), false);
        due.is("not in force", x.count(6), 3);
        due.wrongState("closed", x::close);
        due.is("propose", Due.propose(x, "votes 5;dues 1"), 2);
        due.is("yes", x.vote(2, true), 3);
        due.is("no", x.vote(0, false), 1);
        due.is("3 of 4", x.close(), true);
        due.is("in force", x.count(6), 2);
        due.is("by the new law", x.rules(0, 1), 5);

        due.is("propose", Due.propose(x, "pass 100"), 1);
        due.is("yes", x.vote(0, true), 5);
        due.is("no", x.vote(1, false), 5);
        due.is("half is not above half", x.close(), false);
        Due.propose(x, "pass 100");
        due.is("none said so", x.close(), false);
        Due.propose(x, "votes 1;pass 100");
        x.vote(0, true);
        due.is("all", x.close(), true);
        Due.propose(x, "");
        x.vote(0, true);
        due.is("100 cannot be passed", x.close(), false);

        SeaLand z = withHolders("votes 102 if sons<1;votes 99 if sons>0", 2);
        Due.propose(z, "");
        due.is("yes", z.vote(0, true), 102);
        due.is("no", z.vote(1, false), 99);
        due.is("a little more than half", z.close(), true);

        SeaLand y = withHolders("votes 4;pass 0", 2);
        Due.propose(y, "dues 1;dues 2;dues 3");
        y.vote(0, false);
        due.is("no alone", y.close(), false);
        Due.propose(y, "");
        y.vote(0, false);
        y.vote(1, true);
        due.is("above 0", y.close(), true);
        due.is("no law", y.count(6), 0);
        Due.propose(y, "dues 1");
        due.is("no votes", y.vote(0, true), 0);
        due.none("said so", y.vote(0, true));
        due.is("0 is not above 0", y.close(), false);
    }

    private static void proposals() {
        SeaLand x = new SeaLand();
        due.is("propose", Due.propose(x, "dues 1"), 1);
        Due.tape(x, "dues 2;dues 3");
        due.wrongState("one at a time", x::propose);
        due.none("it was right", x.fault());
        due.is("used up", x.end(1), false);
        Due.tape(x, "dues");
        due.wrongNumber("wrong is told first", x::propose);
        due.is("fault", x.fault(), 4);
        due.is("one may still found", Due.found(x, "votes 1;votes 2"), 2);
        x.land(0, 0, 0, 0, 0);
        x.farm(0, 0);
        x.settler(1, 1, 1, 1, false, false, 1);
        x.choose(1);
        due.is("by the law in force", x.vote(0, true), 3);
        due.is("passes", x.close(), true);
        due.is("the first text", x.count(6), 1);
        due.is("the first text", x.rules(0, 0), 1);
    }
}
