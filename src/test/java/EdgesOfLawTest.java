/** The edges that the document names of the tape, the law and the vote: promises 2, 3, 21 to 29 and their terms. */
public final class EdgesOfLawTest {
    private static final int NONE = SeaLand.NONE;
    private static final int BLANKS = 0x20202020;
    private static final Due due = new Due();

    public static void main(String[] args) {
        feeding();
        ending();
        bytesOfTheTape();
        emptyTexts();
        twentyLines();
        numbersOfLines();
        digits();
        depth();
        wordsAndBlanks();
        firstWrongByte();
        noOlderLines();
        foundingAndProposing();
        faults();
        comparisons();
        rulesAsked();
        gainInHundredths();
        why();
        levelOfLaw();
        yearOfLevels();
        building();
        voting();
        passing();
        due.end();
    }

    private static int feedBlanks(SeaLand x) {
        return x.feed(BLANKS, BLANKS, BLANKS, BLANKS, BLANKS);
    }

    private static void feeding() {
        due.says("how many it has; NONE, and none come, if it would have more than 400");
        SeaLand x = new SeaLand();
        for (int i = 1; i <= 20; i++) {
            due.is("feed", feedBlanks(x), 20 * i);
        }
        due.none("420", feedBlanks(x));
        due.is("400 stay", x.end(400), true);
        for (int cut = 399; cut >= 379; cut--) {
            due.is("cut", x.end(cut), true);
            due.is("with " + cut, feedBlanks(x), cut <= 380 ? cut + 20 : NONE);
            due.is("it has", x.end(cut <= 380 ? cut + 20 : cut), true);
            due.is("no more", x.end((cut <= 380 ? cut + 20 : cut) + 1), false);
        }
    }

    private static void ending() {
        due.says("The TAPE has its first n bytes alone: true; false, and nothing happens, if it has fewer, or n is below 0");
        SeaLand x = new SeaLand();
        due.is("none of none", x.end(0), true);
        due.is("one of none", x.end(1), false);
        due.is("below", x.end(-1), false);
        due.is("far below", x.end(Integer.MIN_VALUE), false);
        due.is("far above", x.end(Integer.MAX_VALUE), false);
        feedBlanks(x);
        due.is("21 of 20", x.end(21), false);
        due.is("20 of 20", x.end(20), true);
        due.is("below", x.end(-1), false);
        due.is("20 of 20 still", x.end(20), true);
        due.is("3 of 20", x.end(3), true);
        due.is("4 of 3", x.end(4), false);
        due.is("behind them", feedBlanks(x), 23);
        due.is("none", x.end(0), true);
        due.is("1 of none", x.end(1), false);
        due.is("from the begin", feedBlanks(x), 20);
    }

    private static void bytesOfTheTape() {
        due.says("Twenty bytes come behind the TAPE, of each number the highest first");
        int out = 'o' << 16 | 'u' << 8 | 't';
        for (int place = 0; place < 5; place++) {
            SeaLand x = new SeaLand();
            int lead = 0x20000000 | out;
            x.feed(place == 0 ? lead : BLANKS, place == 1 ? lead : BLANKS, place == 2 ? lead : BLANKS,
                    place == 3 ? lead : BLANKS, place == 4 ? lead : BLANKS);
            due.is("out in number " + place, x.found(), 1);
        }
        for (int wrong = 0; wrong < 20; wrong++) {
            SeaLand x = new SeaLand();
            int[] five = {BLANKS, BLANKS, BLANKS, BLANKS, BLANKS};
            five[wrong / 4] ^= 0xff << 24 - 8 * (wrong % 4);
            x.feed(five[0], five[1], five[2], five[3], five[4]);
            due.wrongNumber("a wrong byte", x::found);
            due.is("where", x.fault(), wrong);
        }
        SeaLand y = new SeaLand();
        Due.tape(y, "dues 12345");
        y.end(8);
        due.is("cut within the number", y.found(), 1);
        y.settler(1, 1, 1, 1, false, false, 1);
        due.is("its first three digits", y.rules(0, 0), 123);
    }

    private static int founds(String text) {
        SeaLand x = new SeaLand();
        Due.tape(x, text);
        try {
            int lines = x.found();
            due.none("no fault of " + text, x.fault());
            return lines;
        } catch (IllegalArgumentException e) {
            return -2;
        }
    }

    private static void right(String text, int lines) {
        due.is("'" + text + "'", founds(text), lines);
    }

    private static void wrong(String text, int at) {
        SeaLand x = new SeaLand();
        Due.tape(x, text);
        due.wrongNumber("'" + text + "'", x::found);
        due.is("fault of '" + text + "'", x.fault(), at);
    }

    private static void emptyTexts() {
        due.says("A text that is empty, or blanks alone, has no LINE");
        right("", 0);
        right(" ", 0);
        right(" ".repeat(400), 0);
        SeaLand x = new SeaLand();
        Due.found(x, "out;out");
        due.is("the tape is empty now", x.found(), 0);
        due.is("no lines in force", x.count(6), 0);
        due.is("may be proposed", x.propose(), 0);
        due.says("A LAW: a text: LINE { ; LINE }, at most 20");
        wrong(";", 0);
        wrong(" ;", 1);
        wrong("out;", 4);
        wrong("out; ", 5);
        wrong("out;;out", 4);
        wrong(";out", 0);
    }

    private static String lines(int n, String line) {
        StringBuilder all = new StringBuilder(line);
        for (int i = 1; i < n; i++) {
            all.append(';').append(line);
        }
        return all.toString();
    }

    private static void twentyLines() {
        due.says("A LAW: a text: LINE { ; LINE }, at most 20");
        for (int n = 1; n <= 20; n++) {
            right(lines(n, "out"), n);
        }
        due.says("of a 21st LINE its first word");
        wrong(lines(21, "out"), 80);
        wrong(lines(22, "out"), 80);
        wrong(lines(20, "out") + ";  call", 82);
        wrong(lines(20, "out") + ";nonsense", 80);
        due.says("or the text's length, if more must come");
        wrong(lines(20, "out") + ";", 80);
        wrong(lines(20, "out") + ";  ", 82);
        wrong(lines(20, "out") + " if", 82);
        right(lines(20, "dues 12345"), 20);
    }

    private static void bounds(String before, int most, String behind) {
        right(before + "0" + behind, 1);
        right(before + most + behind, 1);
        wrong(before + (most + 1) + behind, before.length());
        wrong(before + "-1" + behind, before.length());
        wrong(before + "x" + behind, before.length());
    }

    private static void numbersOfLines() {
        due.says("level: both 0 to 900 (below the sea's mean, of summer and winter)");
        bounds("level ", 900, " 0 in 0 0");
        bounds("level 0 ", 900, " in 0 0");
        due.says("in: two SQUARES that there are (corners of a rectangle)");
        bounds("level 0 0 in ", 95, " 0");
        bounds("level 0 0 in 0 ", 95, "");
        due.says("pass 0 to 100; bar 0 to 18");
        bounds("pass ", 100, "");
        bounds("bar ", 18, "");
        due.says("dues NUMBER [ if C ] | gain NUMBER [ if C ] | votes NUMBER [ if C ] | fine NUMBER [ if C ] | mark NUMBER [ if C ]");
        due.says("NUMBER: 1 to 5 digits");
        for (String kind : new String[] {"dues ", "gain ", "votes ", "fine ", "mark "}) {
            right(kind + "0", 1);
            right(kind + "99999", 1);
            wrong(kind + "100000", kind.length());
            wrong(kind + "000000", kind.length());
            wrong(kind, kind.length());
            wrong(kind + "if 1<2", kind.length());
            right(kind + "1 if 1<2", 1);
        }
        due.says("call [ if C ] | out [ if C ]");
        for (String kind : new String[] {"call", "out"}) {
            right(kind, 1);
            right(kind + " if 1<2", 1);
            wrong(kind + " 1", kind.length() + 1);
        }
        due.says("level NUMBER NUMBER in NUMBER NUMBER | pass NUMBER | bar NUMBER");
        wrong("pass 1 if 1<2", 7);
        wrong("bar 1 if 1<2", 6);
        wrong("level 1 1 in 1 1 if 1<2", 17);
        wrong("pass", 4);
        wrong("bar", 3);
        wrong("level", 5);
        wrong("level 1", 7);
        wrong("level 1 1", 9);
        wrong("level 1 1 in", 12);
        wrong("level 1 1 in 1", 14);
        String[] words = {"in", "if", "and", "or", "not", "age", "dues", "call", "level", "x", "(", ")", "<", ">", "+", ";", "7"};
        for (String word : words) {
            if (!word.equals("in")) {
                wrong("level 1 1 " + word + " 1 1", 10);
            }
            if (!word.equals("if") && !word.equals(";")) {
                wrong("call " + word + " 1<2", 5);
                wrong("dues 1 " + word + " 1<2", 7);
            }
            if (!word.equals("and") && !word.equals("or") && !word.equals(";") && !word.equals("+")) {
                wrong("call if 1<2 " + word + " 3<4", 12);
            }
            if (!word.equals("<") && !word.equals(">") && !word.equals("+")) {
                wrong("call if 1 " + word + " 2", 10);
            }
            if (!word.equals("not") && !word.equals("(") && !word.equals("age") && !word.equals("7")) {
                wrong("call if " + word + " 1<2", 8);
            }
            if (!word.equals("dues") && !word.equals("call") && !word.equals("level")) {
                wrong(word, 0);
            }
        }
    }

    private static void digits() {
        due.says("(a NUMBER of more digits, or out of its bounds; a word that is none;");
        right("dues 1", 1);
        right("dues 00001", 1);
        wrong("dues 000001", 5);
        right("pass 00100", 1);
        wrong("pass 00101", 5);
        wrong("pass 000100", 5);
        right("call if 99999 < 99999", 1);
        wrong("call if 100000 < 1", 8);
        wrong("call if 1 < 100000", 12);
        wrong("call if 1 + 100000 < 1", 12);
        wrong("dues 4294967297", 5);
        wrong("pass 18446744073709551617", 5);
    }

    private static void depth() {
        due.says("( and not within one another at most 6 deep");
        for (int way = 0; way < 128; way++) {
            StringBuilder open = new StringBuilder("call if ");
            int[] begins = new int[7];
            int brackets = 0;
            for (int i = 0; i < 7; i++) {
                begins[i] = open.length();
                boolean bracket = (way >> i & 1) == 1;
                open.append(bracket ? "(" : "not ");
                brackets += bracket ? 1 : 0;
            }
            due.says("the ( or not that is a 7th one deep");
            wrong(open + "1<2" + ")".repeat(brackets), begins[6]);
            brackets -= way >> 6 & 1;
            right(open.substring(0, begins[6]) + "1<2" + ")".repeat(brackets), 1);
        }
        due.says("( and not within one another at most 6 deep");
        right("call if ((((((1<2)))))) and ((((((1<2)))))) or not(not(not 1<2))", 1);
        right("call if not not not not not not 1<2 and not not not not not not 1<2", 1);
        wrong("call if ((((((1<2)))))) and (((((((1<2)))))))", 34);
        right("call if ((((((1<2)))))); out if ((((((1<2))))))", 2);
    }

    private static void wordsAndBlanks() {
        due.says("Words are as long as a to z go on; between all there may be blanks (32), also ahead and behind");
        right("dues1", 1);
        right("level1 2in3 4", 1);
        right("call if1<2and3<4or not5<6", 1);
        right("call if(1<2)and(1<2)", 1);
        right("   out   ;   call   ", 2);
        right("call if age<sons+kin+1 ", 1);
        wrong("calli f 1<2", 0);
        wrong("call ifage<2", 5);
        wrong("call if 1<2andage<3", 11);
        wrong("call if notage<3", 8);
        wrong("due s 1", 0);
        wrong("dues 1 2", 7);
        right("dues 1 if 12<3", 1);
        wrong("dues 1 if 1 2<3", 12);
        wrong("outout", 0);
        for (int sign = 0; sign < 256; sign++) {
            String text = "out" + (char) sign;
            if (sign == ' ') {
                right(text, 1);
            } else if (sign >= 'a' && sign <= 'z') {
                wrong(text, 0);
            } else {
                wrong(text, sign == ';' ? 4 : 3);
            }
        }
    }

    private static void firstWrongByte() {
        due.says("The first wrong byte: the begin of the first thing that cannot stand there");
        wrong("x", 0);
        wrong("  x", 2);
        wrong("out x", 4);
        wrong("out if x", 7);
        wrong("out if age", 10);
        wrong("out if age x", 11);
        wrong("out if age<", 11);
        wrong("out if age<x", 11);
        wrong("out if age<1 x", 13);
        wrong("out if age+", 11);
        wrong("out if age+<", 11);
        wrong("out if age<1 and", 16);
        wrong("out if age<1 and x", 17);
        wrong("out if age<1 or", 15);
        wrong("out if (", 8);
        wrong("out if (age<1", 13);
        wrong("out if (age<1;", 13);
        wrong("out if age<1)", 12);
        wrong("out if )", 7);
        wrong("out if not", 10);
        wrong("out if not;", 10);
        wrong("out if age<1<2", 12);
        wrong("out if age;", 10);
        wrong("out if dues<1", 7);
        wrong("out if age<if", 11);
        wrong("acres 1", 0);
        wrong("gain", 4);
        right("gain 1 if gain<1", 1);
        due.says("or the text's length, if more must come");
        wrong("out if", 6);
        wrong("out if ", 7);
        wrong("out if   ", 9);
        wrong(" ".repeat(397) + "bar", 400);
    }

    /** A law that is in force has no line of the one that was ahead of it. */
    private static void noOlderLines() {
        due.says("IN FORCE: none at first (no LINES); then the LAW that came last");
        String[] heads = {"dues 9", "votes 9", "fine 9", "mark 9", "call", "out", "level 9 9 in 0 95", "pass 99", "bar 9"};
        for (String head : heads) {
            SeaLand x = new SeaLand();
            x.settler(20, 0, 0, 0, false, false, 0);
            x.land(0, 2, 0, 0, 0);
            x.dike(0, 12, 1, 5);
            String none = Seen.all(x);
            Due.found(x, lines(20, head));
            due.is("twenty lines", x.count(6), 20);
            String twenty = Seen.all(x);
            due.is("it says something", twenty.equals(none), false);
            for (int i = 0; i < 4; i++) {
                due.is("no lines", x.found(), 0);
                due.is("none is left", Seen.all(x).equals(none), true);
            }
            Due.found(x, lines(20, head));
            due.is("twenty lines again", Seen.all(x).equals(twenty), true);
        }
    }

    private static SeaLand holder() {
        SeaLand x = new SeaLand();
        x.land(0, 3, 0, 0, 0);
        x.farm(0, 0);
        x.settler(20, 0, 0, 0, false, false, 0);
        return x;
    }

    private static void foundingAndProposing() {
        due.says("IN FORCE: none at first (no LINES); then the LAW that came last");
        SeaLand x = holder();
        due.is("none", x.count(6), 0);
        due.is("one", Due.found(x, "out"), 1);
        due.is("two", Due.found(x, "dues 1;dues 2"), 2);
        due.is("the last alone", x.rules(0, 5), 0);
        due.is("the last", x.rules(0, 0), 3);
        due.says("A LAW comes at once by founding it, as long as there are no HOLDERS; later by a VOTE");
        due.is("a vote, too", Due.propose(x, "dues 7"), 1);
        due.is("not in force", x.rules(0, 0), 3);
        due.is("founded while a vote goes on", Due.found(x, "votes 1"), 1);
        due.says("Uses the TAPE up: a LAW is founded: how many LINES. IllegalArgumentException: the text is wrong; "
                + "IllegalStateException: there are HOLDERS");
        due.is("a holder", x.choose(1), 1);
        Due.tape(x, "out");
        due.wrongState("no more", x::found);
        due.is("used up", x.end(1), false);
        due.is("the law stays", x.rules(0, 5), 0);
        Due.tape(x, "outs");
        due.wrongNumber("wrong is told first", x::found);
        due.is("used up", x.end(1), false);
        due.says("a VOTE on a text begins: how many LINES it has. IllegalArgumentException: the text is wrong; "
                + "IllegalStateException: a VOTE goes on");
        Due.tape(x, "out");
        due.wrongState("one at a time", x::propose);
        due.is("used up", x.end(1), false);
        Due.tape(x, "outs");
        due.wrongNumber("wrong is told first", x::propose);
        due.is("used up", x.end(1), false);
        due.is("yes", x.vote(0, true), 1);
        due.is("the first text passes", x.close(), true);
        due.is("the first text", x.rules(0, 0), 7);
    }

    private static void faults() {
        due.says("The first wrong byte of the latest text; NONE without one, and ahead of any");
        SeaLand x = holder();
        due.none("ahead of any", x.fault());
        Due.tape(x, "x");
        due.none("a tape is no text", x.fault());
        due.wrongNumber("found", x::found);
        due.is("there", x.fault(), 0);
        Due.tape(x, "out;x");
        due.is("still", x.fault(), 0);
        due.wrongNumber("propose", x::propose);
        due.is("there", x.fault(), 4);
        Due.propose(x, "out");
        due.none("without one", x.fault());
        Due.tape(x, "x");
        due.wrongNumber("found", x::found);
        x.found();
        due.none("an empty text is right", x.fault());
    }

    private static boolean holds(SeaLand x, String condition) {
        Due.found(x, "call if " + condition);
        return x.rules(0, 4) == 1;
    }

    private static void comparisons() {
        due.says("SUM < SUM | SUM > SUM");
        SeaLand x = new SeaLand();
        x.settler(30, 3, 50, 5, true, false, 0);
        for (int n = 29; n <= 31; n++) {
            due.is("age < " + n, holds(x, "age < " + n), 30 < n);
            due.is("age > " + n, holds(x, "age > " + n), 30 > n);
            due.is(n + " < age", holds(x, n + "<age"), n < 30);
            due.is(n + " > age", holds(x, n + ">age"), n > 30);
            due.is("sum < " + n, holds(x, "age+sons+coin+cattle+kin+board<" + n + "+59"), 89 < n + 59);
        }
        due.is("less than 0 is nothing", holds(x, "age < 0"), false);
        due.is("0 is more than nothing", holds(x, "0 > age"), false);
        due.is("0 and 0", holds(x, "0 < 0 or 0 > 0"), false);
        due.is("0 and a fact of 0", holds(x, "board < 0 or 0 < board"), false);
        due.says("SUM: PART { + PART }; PART: NUMBER | FACT. FACT: acres, gain, age, sons, coin, cattle, kin, board, near, owes");
        due.is("parts", holds(x, "acres+gain+age+sons+coin+cattle+kin+board+near+owes < 189"), true);
        due.is("parts", holds(x, "acres+gain+age+sons+coin+cattle+kin+board+near+owes > 187"), true);
        due.is("both", holds(x, "188 < acres+gain+age+sons+coin+cattle+kin+board+near+owes"), false);
        due.says("FACTS of a SETTLER: age, sons, coin, cattle, kin (1 or 0), board (1 or 0), as told (coin as it is now)");
        due.is("kin", holds(x, "kin > 0 and kin < 2"), true);
        due.is("board", holds(x, "board < 1"), true);
        due.says("(99 without one, or FARM)");
        due.is("near", holds(x, "near > 98 and near < 100"), true);
        due.says("acres: SQUARES of its FARM");
        due.is("acres", holds(x, "acres < 1"), true);
        due.says("gain: what its latest harvest brought; owes: its arrears");
        due.is("gain and owes", holds(x, "gain + owes < 1"), true);
        due.says("C: ALL { or ALL }; ALL: ATOM { and ATOM }; ATOM: not ATOM | ( C ) | SUM < SUM | SUM > SUM");
        String[] atoms = {"2<1", "1<2"};
        for (int way = 0; way < 8; way++) {
            String a = atoms[way & 1];
            String b = atoms[way >> 1 & 1];
            String c = atoms[way >> 2 & 1];
            boolean p = (way & 1) == 1;
            boolean q = (way >> 1 & 1) == 1;
            boolean r = (way >> 2 & 1) == 1;
            due.is("or and", holds(x, a + " or " + b + " and " + c), p || q && r);
            due.is("and or", holds(x, a + " and " + b + " or " + c), p && q || r);
            due.is("bracket", holds(x, "(" + a + " or " + b + ") and " + c), (p || q) && r);
            due.is("not and", holds(x, "not " + a + " and " + b), !p && q);
            due.is("not or", holds(x, "not " + a + " or not not " + b), !p || q);
            due.is("not bracket", holds(x, "not (" + a + " and " + b + ") and not " + c), !(p && q) && !r);
        }
    }

    private static void rulesAsked() {
        due.says("what 0 DUES and GAIN together, 1 VOTES, 2 FINE, 3 MARK, 4 1 if it is CALLED, 5 1 if it is OUT. "
                + "NoSuchElementException: another what");
        SeaLand x = holder();
        due.whats("rules", 5, n -> x.rules(0, n));
        due.indices("rules", 1, s -> x.rules(s, 0));
        due.wrongIndex("neither", () -> x.rules(1, 6));
        for (int what = 0; what <= 5; what++) {
            due.is("without a law", x.rules(0, what), 0);
        }
        due.says("BY THE LAW in force: DUES: the sum of all dues that hold, and GAIN");
        Due.found(x, lines(20, "dues 99999"));
        due.is("the most", x.rules(0, 0), 20 * 99999);
        due.says("VOTES: the sum of all votes that hold; FINE, MARK: likewise");
        Due.found(x, lines(20, "votes 99999"));
        due.is("the most", x.rules(0, 1), 20 * 99999);
        Due.found(x, lines(20, "fine 99999"));
        due.is("the most", x.rules(0, 2), 20 * 99999);
        Due.found(x, lines(20, "mark 99999"));
        due.is("the most", x.rules(0, 3), 20 * 99999);
        due.says("CALLED: whether some call holds; OUT: whether some out holds");
        Due.found(x, "call if 2<1;call;out if 1<2;out if 2<1");
        due.is("some call", x.rules(0, 4), 1);
        due.is("some out", x.rules(0, 5), 1);
        Due.found(x, "call if 2<1;out if 2<1");
        due.is("no call", x.rules(0, 4), 0);
        due.is("no out", x.rules(0, 5), 0);
    }

    private static SeaLand withGain(String law, int squares, int crop) {
        SeaLand x = new SeaLand();
        Due.found(x, law);
        x.land(0, 11, 0, 0, 0);
        x.farm(0, squares - 1);
        x.settler(20, 0, 0, 0, false, false, 0);
        x.choose(1);
        x.sow(0, crop);
        x.harvest();
        return x;
    }

    private static void gainInHundredths() {
        due.says("GAIN: of all gain that hold the sum, in hundredths of its gain (of both together, rounded down)");
        due.is("a gain of 20, 4 hundredths", withGain("gain 4", 1, 1).rules(0, 0), 0);
        due.is("5 hundredths", withGain("gain 5", 1, 1).rules(0, 0), 1);
        due.is("9 hundredths", withGain("gain 9", 1, 1).rules(0, 0), 1);
        due.is("10 hundredths", withGain("gain 10", 1, 1).rules(0, 0), 2);
        due.is("two lines are one sum", withGain("gain 4;gain 1", 1, 1).rules(0, 0), 1);
        due.is("those that hold", withGain("gain 4;gain 1 if 2<1", 1, 1).rules(0, 0), 0);
        due.is("with dues", withGain("dues 3;gain 9;dues 4", 1, 1).rules(0, 0), 8);
        due.is("of a gain of 0", withGain("gain 99999", 1, 0).rules(0, 0), 0);
        due.is("the most", withGain(lines(20, "gain 99999"), 12, 2).rules(0, 0), 20L * 99999 * 600 / 100);
    }

    private static void why() {
        due.says("WHY: the first LINE (from 0 on) of that kind that holds for it");
        SeaLand x = holder();
        due.says("WHY, of what 0 dues, 1 gain, 2 votes, 3 fine, 4 mark, 5 call, 6 out; NONE. NoSuchElementException: another what");
        due.whats("why", 6, n -> x.why(0, n));
        due.indices("why", 1, s -> x.why(s, 0));
        due.wrongIndex("neither", () -> x.why(-1, 7));
        String[] kinds = {"dues 0", "gain 0", "votes 0", "fine 0", "mark 0", "call", "out"};
        for (int what = 0; what < 7; what++) {
            Due.found(x, "");
            due.none("without a law", x.why(0, what));
            Due.found(x, kinds[what]);
            due.is("the first, also of 0", x.why(0, what), 0);
            for (int other = 0; other < 7; other++) {
                due.is("of that kind alone", x.why(0, other), other == what ? 0 : NONE);
            }
            Due.found(x, kinds[what] + " if 2<1");
            due.none("it does not hold", x.why(0, what));
            Due.found(x, kinds[what] + " if 2<1;bar 3;" + kinds[what] + ";" + kinds[what]);
            due.is("the first that holds", x.why(0, what), 2);
            Due.found(x, lines(19, "pass 3") + ";" + kinds[what]);
            due.is("the last line", x.why(0, what), 19);
        }
    }

    private static void levelOfLaw() {
        due.says("LEVEL OF LAW for a SQUARE: of the last level LINE whose rectangle has it");
        due.says("below 0: so - NUMBER; none without");
        SeaLand x = new SeaLand();
        due.indices("lawLevel", 96, s -> x.lawLevel(s));
        due.says("LEVEL OF LAW for a SQUARE on the DAY of now; 1000 without one");
        due.is("without one", x.lawLevel(40), 1000);
        for (String corners : new String[] {"14 40", "40 14", "16 38", "38 16"}) {
            Due.found(x, "level 900 800 in " + corners);
            for (int s = 0; s < 96; s++) {
                boolean in = s % 12 >= 2 && s % 12 <= 4 && s / 12 >= 1 && s / 12 <= 3;
                due.is("square " + s, x.lawLevel(s), in ? -800 : 1000);
            }
        }
        Due.found(x, "level 1 2 in 0 95;level 3 4 in 40 40;level 0 0 in 41 41");
        due.is("the last that has it", x.lawLevel(40), -4);
        due.is("the other one", x.lawLevel(39), -2);
        due.is("of 0", x.lawLevel(41), 0);
        Due.found(x, "level 3 4 in 40 40;level 1 2 in 0 95");
        due.is("the last that has it", x.lawLevel(40), -2);
    }

    private static void yearOfLevels() {
        due.says("the summer's (days 90 to 269 of a year of 360) or the winter's");
        SeaLand x = new SeaLand();
        Due.found(x, "level 1 2 in 0 0");
        int hour = 0;
        for (int year = 0; year < 4; year++) {
            for (int day : new int[] {0, 89, 90, 269, 270, 359}) {
                for (int at : new int[] {0, 23}) {
                    int want = ((year * 360) + day) * 24 + at;
                    while (hour < want) {
                        hour = x.hours(Math.min(240, want - hour));
                    }
                    boolean summer = day >= 90 && day <= 269;
                    due.is("year " + year + " day " + day, x.lawLevel(0), summer ? -1 : -2);
                }
            }
        }
    }

    private static void building() {
        due.says("MAY BUILD on a SQUARE: if it is not fewer steps than bar (the last such LINE; 0 without) from a DIKE or BREACH");
        SeaLand x = new SeaLand();
        due.says("steps apart: along x and y together");
        due.indices("mayBuild", 96, s -> x.mayBuild(s));
        x.land(0, 12, 0, 0, 0);
        Due.found(x, "bar 18");
        due.is("without a dike", x.mayBuild(0), true);
        x.dike(0, 1, 12, 5);
        x.land(1, 1, 0, 0, 0);
        Due.found(x, "");
        due.is("0 without", x.mayBuild(0), true);
        for (int bar = 0; bar <= 18; bar++) {
            Due.found(x, "bar 9;bar " + bar);
            for (int s = 0; s < 96; s++) {
                due.is("bar " + bar + " square " + s, x.mayBuild(s), s % 12 + s / 12 >= bar);
            }
        }
        Due.found(x, "bar 1");
        x.mill(1, 2, 5, false);
        due.is("a mill is no dike", x.mayBuild(1), true);
    }

    private static SeaLand withHolders(String law, int holders) {
        SeaLand x = new SeaLand();
        Due.found(x, law);
        x.land(0, 11, 0, 0, 0);
        for (int i = 0; i < holders; i++) {
            x.farm(i, i);
            x.settler(20, i, 0, 0, false, false, 0);
        }
        x.choose(60);
        return x;
    }

    private static void voting() {
        due.says("A VOTE on a text: one at a time; each HOLDER may say yes or no, once; it counts with the VOTES that it has as it says so");
        SeaLand x = withHolders("votes 3", 2);
        x.settler(20, 9, 0, 0, false, false, 0);
        due.says("A SETTLER says yes or no: its VOTES; NONE, and it does not count, if it is no HOLDER, or said so. "
                + "IllegalStateException: no VOTE goes on");
        due.wrongState("no vote", () -> x.vote(0, true));
        due.wrongIndex("no settler, and no vote", () -> x.vote(3, true));
        due.says("The VOTE is CLOSED: whether it passes. IllegalStateException: none goes on");
        due.wrongState("no vote", x::close);
        Due.propose(x, "dues 1");
        due.indices("vote", 3, s -> x.vote(s, true));
        due.none("said so", x.vote(0, false));
        due.none("said so", x.vote(1, true));
        due.none("no holder", x.vote(2, true));
        due.is("six of six", x.close(), true);
        due.wrongState("closed", x::close);
        due.wrongState("closed", () -> x.vote(0, true));
        Due.propose(x, "dues 2");
        due.is("without votes", x.vote(0, true), 0);
        due.none("said so", x.vote(0, true));
        due.is("0 of 0", x.close(), false);
        due.is("the law stays", x.rules(0, 0), 1);
        SeaLand y = withHolders("votes 3", 1);
        y.land(1, 1, 0, 0, 0);
        y.farm(1, 1);
        y.settler(20, 9, 0, 0, false, false, 0);
        Due.propose(y, "dues 1");
        due.none("no holder yet", y.vote(1, true));
        y.choose(1);
        due.is("a holder now", y.vote(1, true), 3);
        due.none("once", y.vote(1, true));
        due.says("it counts with the VOTES that it has as it says so");
        SeaLand z = withHolders("votes 9 if gain<1;votes 1 if gain>0", 2);
        Due.propose(z, "");
        due.is("as it says so", z.vote(0, false), 9);
        z.sow(0, 1);
        z.sow(1, 1);
        z.harvest();
        due.is("as it says so", z.vote(1, true), 1);
        due.is("1 of 10", z.close(), false);
    }

    /** Whether that many votes of yes out of all pass with that line, or without one (NONE). */
    private static boolean passes(int yes, int no, int pass) {
        SeaLand x = withHolders("votes " + yes + " if sons<1;votes " + no + " if sons>0" + (pass == NONE ? "" : ";pass " + pass), 2);
        Due.propose(x, "dues 1;dues 1;pass 0");
        due.is("yes", x.vote(0, true), yes);
        due.is("no", x.vote(1, false), no);
        boolean passed = x.close();
        due.is("in force", x.rules(0, 0), passed ? 2 : 0);
        return passed;
    }

    private static void passing() {
        due.says("CLOSED: it passes, if yes times 100 is above pass (the last such LINE; 50 without) times all that was said; "
                + "then the text is in force");
        for (int pass = NONE; pass <= 100; pass++) {
            int bound = pass == NONE ? 50 : pass;
            for (int yes = Math.max(0, bound - 1); yes <= Math.min(100, bound + 1); yes++) {
                due.is(yes + " of 100 with pass " + pass, passes(yes, 100 - yes, pass), yes > bound);
            }
        }
        due.is("1 of 2", passes(1, 1, NONE), false);
        due.is("2 of 3", passes(2, 1, 66), true);
        due.is("2 of 3", passes(2, 1, 67), false);
        due.is("many", passes(99999, 99998, NONE), true);
        due.is("many", passes(99999, 99999, NONE), false);
        SeaLand x = withHolders("pass 0;votes 1;pass 60", 2);
        Due.propose(x, "dues 1");
        x.vote(0, true);
        x.vote(1, false);
        due.is("the last such line", x.close(), false);
        Due.propose(x, "dues 1");
        due.is("nothing said", x.close(), false);
        due.is("none came", x.count(6), 3);
    }
}
