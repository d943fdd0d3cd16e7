/** The edges that the document names of the coin and the contracts: promises 39 to 43 and their terms. */
public final class EdgesOfCoinTest {
    private static final Due due = new Due();

    public static void main(String[] args) {
        coin();
        contracts();
        spans();
        disagreement();
        lessBySoil();
        enough();
        once();
        thickness();
        noLayer();
        workOfThen();
        due.end();
    }

    private static SeaLand withDike(int soil) {
        SeaLand x = new SeaLand();
        x.land(13, 13, 0, soil, 0);
        x.land(14, 14, 0, 0, 0);
        x.dike(13, 12, 14, 1000);
        return x;
    }

    private static SeaLand withContract(int soil, int price, int bound) {
        SeaLand x = withDike(soil);
        x.contract(0, 3, price, bound);
        return x;
    }

    private static void coin() {
        due.says("COIN comes to the board: how much it has. IllegalArgumentException: not 0 to 1000000, or it would be too much");
        due.is("0 at first", new SeaLand().count(10), 0);
        due.numbers("coin", 0, 1000000, n -> new SeaLand().coin(n));
        SeaLand x = new SeaLand();
        for (int i = 1; i <= 1999; i++) {
            due.is("coin", x.coin(1000000), 1000000 * i);
        }
        due.is("all but one", x.coin(999999), 1999999999);
        due.wrongNumber("two more", () -> x.coin(2));
        due.wrongNumber("a million more", () -> x.coin(1000000));
        due.is("none came", x.count(10), 1999999999);
        due.is("one more", x.coin(1), 2000000000);
        due.wrongNumber("one more", () -> x.coin(1));
        due.wrongNumber("below", () -> x.coin(-1));
        due.is("none more", x.coin(0), 2000000000);
    }

    private static void contracts() {
        due.says("CONTRACTS (at most 40, numbered from 0 on): for a LAYER of CLAY on a DIKE: a PRICE a yard (1 to 1000), a BOUND (0 to 200)");
        due.says("IllegalArgumentException: CLAY, PRICE or BOUND are none; ClassCastException: the WORK is no DIKE (nor BREACH)");
        due.numbers("clay", 0, 9, n -> withDike(0).contract(0, n, 1, 0));
        due.numbers("price", 1, 1000, n -> withDike(0).contract(0, 0, n, 0));
        due.numbers("bound", 0, 200, n -> withDike(0).contract(0, 0, 1, n));
        SeaLand x = withDike(0);
        x.mill(14, 15, 1, false);
        due.indices("work", 1, w -> withDike(0).contract(w, 0, 1, 0));
        due.wrongKind("a mill", () -> x.contract(1, 0, 1, 0));
        due.wrongNumber("a mill, and wrong", () -> x.contract(1, 0, 1, 201));
        due.wrongIndex("no work, and wrong", () -> x.contract(2, 0, 1, 201));
        due.is("none came", x.count(12), 0);
        due.says("A CONTRACT: its number; NONE, and it does not come, if there are 40");
        for (int i = 0; i < 40; i++) {
            due.is("contract", x.contract(0, 0, 1, 0), i);
        }
        due.none("a 41st", x.contract(0, 0, 1, 0));
        due.is("40", x.count(12), 40);
        due.wrongNumber("a 41st that is wrong", () -> x.contract(0, 0, 0, 0));
        due.wrongKind("a 41st for a mill", () -> x.contract(1, 0, 1, 0));
        due.wrongIndex("a 41st for no work", () -> x.contract(2, 0, 1, 0));
        due.indices("yards", 40, c -> x.yards(c, true));
        due.indices("measure", 40, c -> x.measure(c, 0));
        due.indices("pay", 40, c -> x.pay(c));
        SeaLand y = withDike(0);
        y.storm(1, 1, 1);
        y.hours(1);
        due.is("for a breach", y.contract(0, 0, 1, 0), 0);
    }

    private static void spans() {
        due.says("MEASURED: yards (0 to 2000), by hand, some times: each says that it is from so many less BOUND (0 at least) "
                + "to so many and BOUND; SPAN: what all say");
        due.numbers("yards", 0, 2000, n -> withContract(0, 1, 0).measure(0, n));
        for (int bound : new int[] {0, 1, 200}) {
            for (int yards : new int[] {0, 1, 199, 200, 201, 2000}) {
                SeaLand x = withContract(0, 1, bound);
                due.none("not measured", x.yards(0, false));
                due.none("not measured", x.yards(0, true));
                due.is("measured", x.measure(0, yards), true);
                due.is("least", x.yards(0, false), Math.max(0, yards - bound));
                due.is("most", x.yards(0, true), yards + bound);
                due.is("the same again", x.measure(0, yards), true);
                due.is("least", x.yards(0, false), Math.max(0, yards - bound));
                due.is("most", x.yards(0, true), yards + bound);
            }
        }
        SeaLand y = withContract(0, 1, 100);
        y.measure(0, 500);
        due.is("less", y.measure(0, 450), true);
        due.is("least", y.yards(0, false), 400);
        due.is("most", y.yards(0, true), 550);
        due.is("more", y.measure(0, 600), true);
        due.is("least", y.yards(0, false), 500);
        due.is("most", y.yards(0, true), 550);
        due.is("both their own", ownSpans(), true);
    }

    private static boolean ownSpans() {
        SeaLand x = withContract(0, 1, 0);
        x.contract(0, 1, 1, 5);
        x.measure(0, 10);
        x.measure(1, 20);
        return x.yards(0, true) == 10 && x.yards(1, false) == 15 && x.yards(1, true) == 25;
    }

    private static void disagreement() {
        due.says("none, if they do not agree, or there is none");
        SeaLand x = withContract(0, 1, 10);
        x.coin(1000);
        x.measure(0, 100);
        due.is("20 off: one yard is left", x.measure(0, 120), true);
        due.is("least", x.yards(0, false), 110);
        due.is("most", x.yards(0, true), 110);
        SeaLand y = withContract(0, 1, 10);
        y.coin(1000);
        y.measure(0, 100);
        due.is("21 off", y.measure(0, 121), false);
        due.none("no least", y.yards(0, false));
        due.none("no most", y.yards(0, true));
        due.is("never any more", y.measure(0, 110), false);
        due.none("not paid", y.pay(0));
        SeaLand z = withContract(0, 1, 10);
        z.measure(0, 121);
        due.is("21 off, the other way", z.measure(0, 100), false);
        SeaLand w = withContract(0, 1, 0);
        w.measure(0, 5);
        due.is("the same with a bound of 0", w.measure(0, 5), true);
        due.is("one off with a bound of 0", w.measure(0, 6), false);
    }

    private static int paid(int soil, int yards, int price) {
        SeaLand x = withContract(soil, price, 0);
        x.coin(1000000);
        x.coin(1000000);
        x.measure(0, yards);
        int sum = x.pay(0);
        due.is("the board pays", x.count(10), 2000000 - sum);
        return sum;
    }

    private static void lessBySoil() {
        due.says("least of the SPAN, less a tenth on clay, a fifth on peat (of it, rounded down; the SOIL of the SQUARE of the WORK");
        int[][] cases = {{0, 0, 0}, {0, 7, 7}, {0, 2000, 2000}, {1, 9, 9}, {1, 10, 9}, {1, 19, 18}, {1, 20, 18}, {1, 2000, 1800},
            {2, 4, 4}, {2, 5, 4}, {2, 9, 8}, {2, 10, 8}, {2, 2000, 1600}, {1, 0, 0}, {2, 0, 0}};
        for (int[] one : cases) {
            due.is("soil " + one[0] + " yards " + one[1], paid(one[0], one[1], 1), one[2]);
            due.is("soil " + one[0] + " yards " + one[1] + " at 1000", paid(one[0], one[1], 1000), 1000 * one[2]);
        }
        SeaLand x = withContract(0, 1, 50);
        x.coin(1000);
        x.measure(0, 100);
        due.is("the least of the span", x.pay(0), 50);
    }

    private static void enough() {
        due.says("times PRICE: if the COIN is enough; then the DIKE has a LAYER more");
        due.says("A CONTRACT is PAID: how much; NONE, and nothing happens, if it was, has no SPAN, or the COIN is not enough");
        SeaLand x = withContract(0, 7, 0);
        x.coin(699);
        due.none("no span", x.pay(0));
        x.measure(0, 100);
        x.hours(1);
        due.none("699 of 700", x.pay(0));
        due.is("the coin stays", x.count(10), 699);
        due.is("no layer", x.work(0, 6), 0);
        due.is("rows stay", x.count(17), 1);
        due.is("it may be measured still", x.measure(0, 100), true);
        x.coin(1);
        due.is("700 of 700", x.pay(0), 700);
        due.is("none is left", x.count(10), 0);
        due.is("a layer", x.work(0, 6), 1);
        SeaLand y = withContract(0, 1000, 0);
        y.measure(0, 0);
        due.is("nothing, without coin", y.pay(0), 0);
        due.none("once", y.pay(0));
    }

    private static void once() {
        due.says("PAID (once, with a SPAN)");
        SeaLand x = withContract(0, 1, 5);
        x.coin(1000);
        x.measure(0, 105);
        due.is("paid", x.pay(0), 100);
        due.none("it was", x.pay(0));
        due.is("once", x.count(10), 900);
        due.is("one layer", x.work(0, 6), 1);
        due.says("A CONTRACT is MEASURED: whether it has a SPAN then. IllegalArgumentException: yards are none; IllegalStateException: it is PAID");
        due.wrongState("paid", () -> x.measure(0, 105));
        due.wrongNumber("paid, and wrong", () -> x.measure(0, 2001));
        due.wrongIndex("none, and wrong", () -> x.measure(1, 2001));
        due.says("The least (most false) or greatest of the SPAN; NONE");
        due.is("the span stays", x.yards(0, false), 100);
        due.is("the span stays", x.yards(0, true), 110);
    }

    private static void thickness() {
        due.says("then the DIKE has a LAYER more, a tenth of these paid yards THICK (1 to 300; none, if it were 0), of that CLAY");
        int[][] cases = {{0, 0, 0}, {0, 9, 0}, {0, 10, 1}, {0, 19, 1}, {0, 20, 2}, {0, 2000, 200}, {1, 10, 0}, {1, 11, 1},
            {2, 12, 1}, {2, 11, 0}, {1, 2000, 180}, {2, 2000, 160}};
        for (int[] one : cases) {
            SeaLand x = withContract(one[0], 1, 0);
            x.coin(2000);
            x.measure(0, one[1]);
            x.hours(1);
            int sum = x.pay(0);
            due.is("paid of " + one[1], sum >= 0, true);
            due.is("thick of " + one[1], x.work(0, 5), one[2]);
            due.is("layers of " + one[1], x.work(0, 6), one[2] > 0 ? 1 : 0);
            due.is("rows", x.count(17), one[2] > 0 ? 0 : 1);
            due.none("paid in any case", x.pay(0));
            due.is("of that clay", x.seep(0, 200), one[2] > 0 ? 14 : 0);
        }
    }

    private static void noLayer() {
        due.says("(that WORK; not, if it has 6, is a BREACH, or no DIKE at all any more; paid all the same)");
        for (int has = 5; has <= 6; has++) {
            SeaLand x = withContract(0, 1, 0);
            for (int i = 0; i < has; i++) {
                x.layer(0, 1, 1);
            }
            x.coin(100);
            x.measure(0, 50);
            x.hours(1);
            due.is("paid with " + has, x.pay(0), 50);
            due.is("six", x.work(0, 6), 6);
            due.is("crest", x.work(0, 5), has == 5 ? 10 : 6);
            due.is("rows", x.count(17), has == 5 ? 0 : 1);
        }
        SeaLand y = withContract(2, 1, 0);
        y.storm(1, 1, 1);
        y.hours(1);
        y.coin(100);
        y.measure(0, 50);
        due.is("a breach on peat", y.pay(0), 40);
        due.is("a breach", y.work(0, 0), 1);
        due.is("no layer", y.work(0, 6), 0);
        due.is("rows stay", y.count(17), 1);
        y.shut(0);
        due.is("no layer comes later", y.work(0, 6), 0);
        due.none("paid", y.pay(0));
    }

    private static void workOfThen() {
        due.says("the SOIL of the SQUARE of the WORK that has that number then, if it is a DIKE or BREACH; else nothing less");
        for (int way = 0; way < 4; way++) {
            SeaLand x = new SeaLand();
            x.land(13, 13, 0, 2, 0);
            x.land(14, 14, 0, 1, 0);
            x.land(15, 15, 0, 0, 0);
            x.hours(1);
            x.keep();
            x.dike(13, 12, 14, 5);
            x.contract(0, 3, 1, 0);
            x.measure(0, 100);
            x.coin(100);
            x.back();
            int want = 100;
            if (way == 1) {
                x.mill(13, 14, 5, false);
            } else if (way == 2) {
                x.sluice(13, 12, 5);
            } else if (way == 3) {
                x.dike(14, 2, 15, 5);
                want = 90;
            }
            due.is("way " + way, x.pay(0), want);
            due.is("its coin", x.count(10), 100 - want);
            due.is("crest or the like", way == 0 ? 0 : x.work(0, 5), way == 0 ? 0 : way == 3 ? 9 : 5);
            due.none("paid all the same", x.pay(0));
        }
    }
}
