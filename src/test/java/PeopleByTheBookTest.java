import java.util.ArrayList;
import java.util.Comparator;
import java.util.List;
import java.util.Random;

/** Choosing, votes and harvests of any people under any laws, against a second telling of the document's terms. */
public final class PeopleByTheBookTest {
    private static final int RUNS = 120;
    private static final Due due = new Due();

    interface Holds {
        boolean of(int[] facts);
    }

    /** A LINE as a text and as what it says; facts stand as in the document's list of them. */
    private static final class Line {
        final String kind;
        final int number;
        final String text;
        final Holds holds;

        Line(String kind, int number, String condition, Holds holds) {
            this.kind = kind;
            this.number = number;
            String head = kind.equals("call") || kind.equals("out") ? kind : kind + " " + number;
            this.text = condition.isEmpty() ? head : head + " if " + condition;
            this.holds = holds;
        }
    }

    private static final class Person {
        int age;
        int sons;
        int coin;
        int cattle;
        boolean kin;
        boolean board;
        int drawn;
        int number;
        int farm = -1;
        int gain;
        int owes;
        boolean came;
        boolean said;
    }

    private static final int[] FULL = {0, 20, 50, 40};
    private static final int[] WET = {0, 60, 20, 10};
    private static final int[] SALT = {0, 4000, 2000, 8000};

    private final SeaLand x = new SeaLand();
    private final Random random;
    private final int run;
    private final List<Person> people = new ArrayList<>();
    private final List<List<Integer>> farms = new ArrayList<>();
    private final List<Integer> crops = new ArrayList<>();
    private final List<Integer> dikes = new ArrayList<>();
    private List<Line> law = new ArrayList<>();
    private List<Line> proposed;
    private long yes;
    private long said;
    private long coin;

    private PeopleByTheBookTest(int run) {
        this.run = run;
        this.random = new Random(run);
    }

    public static void main(String[] args) {
        for (int run = 0; run < RUNS; run++) {
            new PeopleByTheBookTest(run).live();
        }
        due.end();
    }

    private static Line any(Random random) {
        Line[] all = {
            new Line("dues", 7, "", f -> true), new Line("dues", 31, "acres>1", f -> f[0] > 1),
            new Line("dues", 90, "gain>90", f -> f[1] > 90), new Line("gain", 13, "coin<160", f -> f[4] < 160),
            new Line("gain", 41, "near<3 or kin>0", f -> f[8] < 3 || f[6] > 0), new Line("votes", 1, "", f -> true),
            new Line("votes", 3, "sons>1", f -> f[3] > 1), new Line("votes", 5, "acres+sons>age", f -> f[0] + f[3] > f[2]),
            new Line("fine", 9, "owes<50", f -> f[9] < 50), new Line("fine", 4, "", f -> true),
            new Line("mark", 5, "age>40 and not board>0", f -> f[2] > 40 && f[7] < 1),
            new Line("mark", 2, "cattle+sons>20", f -> f[5] + f[3] > 20), new Line("call", 0, "near<4", f -> f[8] < 4),
            new Line("call", 0, "owes>20", f -> f[9] > 20), new Line("out", 0, "age>85", f -> f[2] > 85),
            new Line("out", 0, "coin<10 and kin<1", f -> f[4] < 10 && f[6] < 1), new Line("pass", random.nextInt(101), "", f -> true)};
        return all[random.nextInt(all.length)];
    }

    private List<Line> anyLaw() {
        List<Line> lines = new ArrayList<>();
        for (int n = random.nextInt(12); n > 0; n--) {
            lines.add(any(random));
        }
        return lines;
    }

    private static String text(List<Line> lines) {
        StringBuilder all = new StringBuilder();
        for (Line line : lines) {
            all.append(all.length() == 0 ? "" : ";").append(line.text);
        }
        return all.toString();
    }

    private int near(Person p) {
        int near = 99;
        for (int dike : dikes) {
            for (int s : p.farm < 0 ? List.<Integer>of() : farms.get(p.farm)) {
                near = Math.min(near, Math.abs(s % 12 - dike % 12) + Math.abs(s / 12 - dike / 12));
            }
        }
        return near;
    }

    private int[] facts(Person p) {
        return new int[] {p.farm < 0 ? 0 : farms.get(p.farm).size(), p.gain, p.age, p.sons, p.coin, p.cattle, p.kin ? 1 : 0,
            p.board ? 1 : 0, near(p), p.owes};
    }

    private long sum(Person p, String kind) {
        long sum = 0;
        for (Line line : law) {
            sum += line.kind.equals(kind) && line.holds.of(facts(p)) ? line.number : 0;
        }
        return sum;
    }

    private boolean some(Person p, String kind) {
        return law.stream().anyMatch(line -> line.kind.equals(kind) && line.holds.of(facts(p)));
    }

    private void live() {
        x.land(12, 95, -5, 0, 0);
        for (int s = 12; s < 96; s++) {
            x.land(s, s, -5, random.nextInt(3), 0);
        }
        for (int i = 0; i < 3; i++) {
            int s = 12 + random.nextInt(12);
            if (x.dike(s, s - 12, s + 12, 1000) >= 0) {
                dikes.add(s);
                x.layer(x.count(2) - 1, 50, 9);
            }
        }
        law = anyLaw();
        due.is("lines", Due.found(x, text(law)), law.size());
        for (int step = 0; step < 60; step++) {
            act();
            look();
        }
    }

    private void act() {
        switch (random.nextInt(10)) {
            case 0:
            case 1:
                settle();
                break;
            case 2:
                layOut();
                break;
            case 3:
                choose(random.nextInt(4));
                break;
            case 4:
                if (!farms.isEmpty()) {
                    int farm = random.nextInt(farms.size());
                    int crop = random.nextInt(4);
                    due.is("sow", x.sow(farm, crop), crops.get(farm) != crop);
                    crops.set(farm, crop);
                }
                break;
            case 5:
                int s = 12 + random.nextInt(84);
                x.fill(s, random.nextInt(2), random.nextInt(12000));
                break;
            case 6:
                x.hours(random.nextInt(241));
                break;
            case 7:
                if (!people.isEmpty()) {
                    Person p = people.get(random.nextInt(people.size()));
                    due.is("come", x.come(p.number), p.farm >= 0 && !p.came);
                    p.came = true;
                }
                break;
            case 8:
                vote();
                break;
            default:
                harvest();
        }
    }

    private void settle() {
        for (int i = 0; i < 3 && people.size() < 60; i++) {
            Person p = new Person();
            p.age = random.nextInt(100);
            p.sons = random.nextInt(21);
            p.coin = random.nextInt(300);
            p.cattle = random.nextInt(101);
            p.kin = random.nextBoolean();
            p.board = random.nextBoolean();
            p.drawn = random.nextInt(5);
            p.number = people.size();
            due.is("settler", x.settler(p.age, p.sons, p.coin, p.cattle, p.kin, p.board, p.drawn), p.number);
            people.add(p);
        }
    }

    private void layOut() {
        int from = random.nextInt(96);
        int to = Math.min(95, from + random.nextInt(3) + 12 * random.nextInt(2));
        List<Integer> squares = new ArrayList<>();
        boolean may = farms.size() < 30;
        for (int s = 0; s < 96; s++) {
            boolean in = s % 12 >= Math.min(from % 12, to % 12) && s % 12 <= Math.max(from % 12, to % 12)
                    && s / 12 >= from / 12 && s / 12 <= to / 12;
            if (in) {
                squares.add(s);
                int square = s;
                may &= s >= 12 && farms.stream().noneMatch(f -> f.contains(square));
            }
        }
        due.is("farm", x.farm(from, to), may ? farms.size() : -1);
        if (may) {
            farms.add(squares);
            crops.add(0);
        }
    }

    private int worth(int farm) {
        int worth = 0;
        for (int s : farms.get(farm)) {
            worth += Math.max(0, new int[] {100, 150, 60}[x.square(s, 2)] - x.square(s, 5) / 100);
        }
        return worth;
    }

    private void choose(int n) {
        List<Person> can = new ArrayList<>();
        for (Person p : people) {
            if (p.farm < 0 && !some(p, "out")) {
                can.add(p);
            }
        }
        can.sort(Comparator.comparingLong((Person p) -> -sum(p, "mark")).thenComparingInt(p -> p.drawn).thenComparingInt(p -> p.number));
        int given = 0;
        for (int i = 0; i < n && i < can.size(); i++) {
            int best = -1;
            for (int farm = 0; farm < farms.size(); farm++) {
                int at = farm;
                boolean free = people.stream().noneMatch(p -> p.farm == at);
                best = free && (best < 0 || worth(farm) > worth(best)) ? farm : best;
            }
            if (best >= 0) {
                can.get(i).farm = best;
                given++;
            }
        }
        due.is("choose", x.choose(n), given);
    }

    private void vote() {
        if (proposed == null) {
            proposed = anyLaw();
            due.is("propose", Due.propose(x, text(proposed)), proposed.size());
            yes = 0;
            said = 0;
            people.forEach(p -> p.said = false);
        }
        for (Person p : people) {
            if (random.nextBoolean()) {
                boolean says = random.nextInt(3) > 0;
                long votes = p.farm < 0 || p.said ? -1 : sum(p, "votes");
                due.is("vote", x.vote(p.number, says), votes);
                if (votes >= 0) {
                    p.said = true;
                    said += votes;
                    yes += says ? votes : 0;
                }
            }
        }
        if (random.nextBoolean()) {
            int pass = 50;
            for (Line line : law) {
                pass = line.kind.equals("pass") ? line.number : pass;
            }
            boolean passes = yes * 100 > pass * said;
            due.is("close", x.close(), passes);
            law = passes ? proposed : law;
            proposed = null;
        }
    }

    private void harvest() {
        int year = x.count(1) / 360;
        boolean there = harvested[year];
        harvested[year] = true;
        long all = 0;
        for (Person p : people) {
            if (p.farm >= 0 && !there) {
                int brought = 0;
                int crop = crops.get(p.farm);
                for (int s : farms.get(p.farm)) {
                    int borne = (x.square(s, 8) <= WET[crop] ? 1 : 0) + (x.square(s, 5) <= SALT[crop] ? 1 : 0);
                    brought += FULL[crop] * borne / 2;
                }
                all += brought;
                p.gain = brought;
                p.coin += brought;
                long owes = sum(p, "dues") + sum(p, "gain") * p.gain / 100 + (some(p, "call") && !p.came ? sum(p, "fine") : 0);
                long sum = p.owes + owes;
                long paid = Math.min(sum, p.coin);
                p.owes = (int) (sum - paid);
                p.coin -= (int) paid;
                coin += paid;
            }
            p.came &= there;
        }
        due.is("harvest", x.harvest(), there ? -1 : all);
        for (int s = 0; s < 96 && !there; s++) {
            due.is("wet", x.square(s, 8), 0);
        }
    }

    private final boolean[] harvested = new boolean[5];

    private void look() {
        String of = " in run " + run;
        long owed = 0;
        List<Person> debtors = new ArrayList<>();
        for (Person p : people) {
            int[] want = {p.farm, p.coin, p.gain, p.owes, p.farm < 0 ? 0 : farms.get(p.farm).size(), near(p)};
            for (int what = 0; what < 6; what++) {
                due.is("who " + p.number + " " + what + of, x.who(p.number, what), want[what]);
            }
            long[] rules = {sum(p, "dues") + sum(p, "gain") * p.gain / 100, sum(p, "votes"), sum(p, "fine"), sum(p, "mark"),
                some(p, "call") ? 1 : 0, some(p, "out") ? 1 : 0};
            for (int what = 0; what < 6; what++) {
                due.is("rules " + p.number + " " + what + of, x.rules(p.number, what), rules[what]);
            }
            owed += p.owes;
            if (p.owes > 0) {
                debtors.add(p);
            }
        }
        debtors.sort(Comparator.comparingInt((Person p) -> -p.owes).thenComparingInt(p -> p.number));
        for (int rank = 0; rank <= debtors.size(); rank++) {
            due.is("rank " + rank + of, x.arrears(rank), rank < debtors.size() ? debtors.get(rank).number : -1);
        }
        for (int farm = 0; farm < farms.size(); farm++) {
            due.is("worth" + of, x.worth(farm), worth(farm));
        }
        due.is("arrears" + of, x.count(11), owed);
        due.is("coin" + of, x.count(10), coin);
        due.is("lines" + of, x.count(6), law.size());
        due.is("holders" + of, x.count(8), people.stream().filter(p -> p.farm >= 0).count());
    }
}
