/** Promises 39 to 43: the board's coin and contracts. */
public final class ContractTest {
    private static final Due due = new Due();

    public static void main(String[] args) {
        coin();
        contracts();
        measures();
        payOn(0, 100);
        payOn(1, 90);
        payOn(2, 80);
        layers();
        rounding();
        afterGoingBack();
        due.end();
    }

    private static SeaLand withDike(int soil) {
        SeaLand x = new SeaLand();
        x.land(13, 13, 0, soil, 0);
        x.land(14, 14, 0, 0, 0);
        x.dike(13, 12, 14, 5);
        return x;
    }

    private static void coin() {
        SeaLand x = new SeaLand();
        due.is("coin", x.coin(1000000), 1000000);
        due.is("coin", x.coin(0), 1000000);
        due.wrongNumber("coin", () -> x.coin(1000001));
        due.wrongNumber("coin", () -> x.coin(-1));
        due.is("count", x.count(10), 1000000);
    }

    private static void contracts() {
        SeaLand x = withDike(0);
        x.mill(14, 15, 5, false);
        due.wrongNumber("clay", () -> x.contract(0, 10, 1, 0));
        due.wrongNumber("clay", () -> x.contract(0, -1, 1, 0));
        due.wrongNumber("price", () -> x.contract(0, 0, 0, 0));
        due.wrongNumber("price", () -> x.contract(0, 0, 1001, 0));
        due.wrongNumber("bound", () -> x.contract(0, 0, 1, 201));
        due.wrongNumber("bound", () -> x.contract(0, 0, 1, -1));
        due.wrongKind("a mill", () -> x.contract(1, 0, 1, 0));
        due.wrongNumber("a mill, and wrong", () -> x.contract(1, 0, 0, 0));
        for (int i = 0; i < 40; i++) {
            if (i == 5) {
                x.tide(1, 1);
                x.hours(1);
                due.is("a breach", x.work(0, 0), 1);
            }
            due.is("contract", x.contract(0, 9, 1000, 200), i);
        }
        due.none("a 41st", x.contract(0, 9, 1000, 200));
        due.wrongKind("a 41st of a mill", () -> x.contract(1, 9, 1000, 200));
        due.is("count", x.count(12), 40);
    }

    private static void measures() {
        SeaLand x = withDike(0);
        x.contract(0, 1, 1, 10);
        due.none("not measured", x.yards(0, false));
        due.none("not measured", x.yards(0, true));
        due.none("not paid", x.pay(0));
        due.is("a span", x.measure(0, 5), true);
        due.is("least", x.yards(0, false), 0);
        due.is("most", x.yards(0, true), 15);
        due.is("agrees", x.measure(0, 25), true);
        due.is("least", x.yards(0, false), 15);
        due.is("most", x.yards(0, true), 15);
        due.is("agrees not", x.measure(0, 26), false);
        due.none("no span", x.yards(0, false));
        due.none("no span", x.yards(0, true));
        due.is("never again", x.measure(0, 15), false);
        due.none("not paid", x.pay(0));
        due.wrongNumber("yards", () -> x.measure(0, -1));
        due.wrongNumber("yards", () -> x.measure(0, 2001));
        due.wrongIndex("none", () -> x.measure(1, -1));
        due.wrongIndex("none", () -> x.measure(-1, 0));
        due.wrongIndex("none", () -> x.yards(1, true));
        due.wrongIndex("none", () -> x.yards(-1, true));
        due.wrongIndex("none", () -> x.pay(1));
        due.wrongIndex("none", () -> x.pay(-1));
        x.contract(0, 1, 1, 0);
        due.is("edges", x.measure(1, 2000), true);
        due.is("least", x.yards(1, false), 2000);
        x.contract(0, 1, 1, 0);
        due.is("edges", x.measure(2, 0), true);
        due.is("nothing to pay", x.pay(2), 0);
        due.none("paid", x.pay(2));
        due.is("no layer", x.work(0, 6), 0);
    }

    private static void payOn(int soil, int yards) {
        SeaLand x = withDike(soil);
        x.contract(0, 3, 7, 5);
        x.measure(0, 105);
        due.none("no coin", x.pay(0));
        x.coin(7 * yards - 1);
        due.none("not enough", x.pay(0));
        due.is("coin stays", x.count(10), 7 * yards - 1);
        due.is("no layer", x.work(0, 6), 0);
        x.coin(1);
        due.is("paid", x.pay(0), 7 * yards);
        due.is("coin", x.count(10), 0);
        due.is("a layer", x.work(0, 6), 1);
        due.is("thick", x.work(0, 5), yards / 10);
        due.is("of that clay", x.seep(0, 100), 100 * 7 / 100);
        due.none("once", x.pay(0));
        due.wrongState("paid", () -> x.measure(0, 100));
        due.wrongNumber("paid, and wrong", () -> x.measure(0, 2001));
        due.is("its span stays", x.yards(0, false), 100);
    }

    private static void layers() {
        SeaLand x = withDike(0);
        x.coin(1000000);
        for (int i = 0; i < 7; i++) {
            x.contract(0, 1, 1, 0);
            x.measure(i, 10);
            due.is("paid", x.pay(i), 10);
            due.is("at most 6", x.work(0, 6), Math.min(6, i + 1));
        }
        due.is("crest", x.work(0, 5), 6);
        x.tide(1, 50);
        x.hours(1);
        due.is("a breach", x.work(0, 0), 1);
        SeaLand y = withDike(0);
        y.coin(1000000);
        y.contract(0, 1, 1, 0);
        y.measure(0, 10);
        y.tide(1, 1);
        y.hours(1);
        due.is("a breach is paid", y.pay(0), 10);
        due.is("but has no layer more", y.work(0, 6), 0);
        due.is("and rows stay", y.count(17), 1);
    }

    private static void rounding() {
        SeaLand x = withDike(1);
        x.coin(1000000);
        x.contract(0, 1, 1, 0);
        x.measure(0, 19);
        due.is("less 1", x.pay(0), 18);
        due.is("a tenth", x.work(0, 5), 1);
        x.contract(0, 1, 1, 0);
        x.measure(1, 10);
        x.hours(1);
        due.is("less 1", x.pay(1), 9);
        due.is("no layer", x.work(0, 6), 1);
        due.is("rows stay", x.count(17), 1);
        x.contract(0, 1, 1, 0);
        x.measure(2, 2000);
        due.is("much", x.pay(2), 1800);
        due.is("thick", x.work(0, 5), 181);
        due.is("a layer is told", x.count(17), 0);
    }

    private static void afterGoingBack() {
        SeaLand x = new SeaLand();
        x.land(13, 13, 0, 2, 0);
        x.land(14, 15, 0, 1, 0);
        x.coin(1000000);
        x.hours(1);
        x.keep();
        x.dike(13, 12, 14, 5);
        for (int i = 0; i < 4; i++) {
            x.contract(0, 1, 1, 0);
            x.measure(i, 100);
        }
        due.is("peat", x.pay(0), 80);
        x.back();
        due.is("no work", x.count(2), 0);
        due.is("nothing less", x.pay(1), 100);
        x.mill(14, 15, 5, false);
        due.is("a mill, nothing less", x.pay(2), 100);
        x.back();
        x.dike(14, 2, 15, 5);
        due.is("another dike, on clay", x.pay(3), 90);
        due.is("its layer", x.work(0, 5), 9);
    }
}
