import java.util.ArrayList;
import java.util.List;
import java.util.Map;
import java.util.NoSuchElementException;
import java.util.TreeMap;

/**
 * The whole document told a second time, as plainly as it stands there and without any care for speed or room:
 * CHECK runs its hours again, and the plans try all the ways there are.
 */
final class SecondLand {
    static final int NONE = -1;

    // ---- what THE IMAGE has ---------------------------------------------------------------------

    static final class Place {
        boolean land;
        long height;
        int soil;
        int ditch;
        long water;
        long salt;
        int dry;
        int wet;

        Place copy() {
            Place p = new Place();
            p.land = land;
            p.height = height;
            p.soil = soil;
            p.ditch = ditch;
            p.water = water;
            p.salt = salt;
            p.dry = dry;
            p.wet = wet;
            return p;
        }

        long level() {
            return height + water;
        }

        long takeOff(long n) {
            long goes = salt * n / (water + 10);
            water -= n;
            salt -= goes;
            return goes;
        }
    }

    enum Kind { DIKE, BREACH, MILL, ENGINE, SLUICE }

    static final class Thing {
        Kind kind;
        int square;
        int to;
        int number;
        int width;
        int coal;
        boolean on;
        long latest;
        long all;
        List<int[]> layers = new ArrayList<>();

        Thing copy() {
            Thing t = new Thing();
            t.kind = kind;
            t.square = square;
            t.to = to;
            t.number = number;
            t.width = width;
            t.coal = coal;
            t.on = on;
            t.latest = latest;
            t.all = all;
            t.layers = new ArrayList<>(layers);
            return t;
        }

        boolean bank() {
            return kind == Kind.DIKE || kind == Kind.BREACH;
        }

        void did(long n) {
            latest = n;
            all += n;
        }
    }

    static final class Nature {
        final Place[] places = new Place[96];
        final List<Thing> works = new ArrayList<>();
        final int[] tide = new int[12];
        final List<int[]> storms = new ArrayList<>();
        final List<int[]> winds = new ArrayList<>();
        final List<int[]> rains = new ArrayList<>();
        int hour;
        long rained;
        long cameIn;
        long wentOut;
        long told;

        Nature() {
            for (int s = 0; s < 96; s++) {
                places[s] = new Place();
            }
        }

        Nature copy() {
            Nature n = new Nature();
            for (int s = 0; s < 96; s++) {
                n.places[s] = places[s].copy();
            }
            for (Thing t : works) {
                n.works.add(t.copy());
            }
            System.arraycopy(tide, 0, n.tide, 0, 12);
            n.storms.addAll(storms);
            n.winds.addAll(winds);
            n.rains.addAll(rains);
            n.hour = hour;
            n.rained = rained;
            n.cameIn = cameIn;
            n.wentOut = wentOut;
            n.told = told;
            return n;
        }

        int outside(int at) {
            int level = tide[at % 12];
            for (int[] storm : storms) {
                if (storm[0] <= at && at <= storm[1]) {
                    level += storm[2];
                }
            }
            return level;
        }

        private static TreeMap<Integer, Integer> byHour(List<int[]> tellings) {
            TreeMap<Integer, Integer> all = new TreeMap<>();
            for (int[] telling : tellings) {
                all.put(telling[0], telling[1]);
            }
            return all;
        }

        int rain(int at) {
            Map.Entry<Integer, Integer> told = byHour(rains).floorEntry(at);
            return told == null ? 0 : told.getValue();
        }

        int wind(int at) {
            TreeMap<Integer, Integer> all = byHour(winds);
            Map.Entry<Integer, Integer> told = all.floorEntry(at);
            if (told == null) {
                return 0;
            }
            if (told.getValue() != NONE) {
                return told.getValue();
            }
            all.values().removeIf(n -> n == NONE);
            Map.Entry<Integer, Integer> one = all.lowerEntry(told.getKey());
            Map.Entry<Integer, Integer> other = all.higherEntry(told.getKey());
            return Math.max(one == null ? 0 : one.getValue(), other == null ? 0 : other.getValue());
        }

        long level(int s) {
            return places[s].land ? places[s].level() : outside(hour);
        }

        long crest(Thing dike) {
            long crest = places[dike.square].height;
            for (int[] layer : dike.layers) {
                crest += layer[0];
            }
            return crest;
        }

        long seep(Thing dike, int outside) {
            long head = Math.max(0, outside - Math.max(places[dike.to].level(), places[dike.square].height));
            long sum = 0;
            long underside = places[dike.square].height;
            for (int[] layer : dike.layers) {
                if (underside < outside) {
                    sum += 10 - layer[1];
                }
                underside += layer[0];
            }
            return head * sum / 100;
        }

        void anHour() {
            hour++;
            int outside = outside(hour);
            int rain = rain(hour);
            int wind = wind(hour);
            for (Place p : places) {
                if (p.land) {
                    p.water += rain;
                    rained += rain;
                }
            }
            works.stream().filter(Thing::bank).forEach(t -> bank(t, outside));
            works.stream().filter(t -> t.kind == Kind.SLUICE).forEach(t -> sluice(t, outside));
            ditches();
            for (Thing t : works) {
                if (t.kind == Kind.MILL) {
                    lift(t, t.number * wind / 10);
                } else if (t.kind == Kind.ENGINE) {
                    int could = t.on && t.coal > 0 ? t.number : 0;
                    t.coal = Math.max(0, t.on ? t.coal - 1 : t.coal);
                    lift(t, could);
                }
            }
            if (hour % 24 == 0) {
                endOfDay();
            }
        }

        private void bank(Thing t, int outside) {
            Place land = places[t.to];
            if (t.kind == Kind.BREACH) {
                t.width = Math.min(60, t.width + 2);
            } else if (seep(t, outside) > t.number || outside > crest(t)) {
                t.kind = Kind.BREACH;
                t.width = 4;
            }
            long comes = t.kind == Kind.DIKE ? seep(t, outside) : (outside - land.level()) * t.width / 120;
            if (comes < 0) {
                comes = Math.max(comes, -land.water);
                land.takeOff(-comes);
                wentOut -= comes;
            } else {
                land.water += comes;
                land.salt += 30 * comes;
                cameIn += comes;
            }
            t.did(comes);
        }

        private void sluice(Thing t, int outside) {
            Place p = places[t.square];
            long goes = 0;
            if (t.on && outside < p.level()) {
                goes = Math.min(t.number, Math.min(p.water, (p.level() - outside) / 4));
            }
            p.takeOff(goes);
            wentOut += goes;
            t.did(goes);
        }

        private void lift(Thing t, int could) {
            Place p = places[t.square];
            long goes = Math.min(could, p.water);
            long salt = p.takeOff(goes);
            if (places[t.to].land) {
                places[t.to].water += goes;
                places[t.to].salt += salt;
            } else {
                wentOut += goes;
            }
            t.did(goes);
        }

        private void ditches() {
            Place[] was = new Place[96];
            for (int s = 0; s < 96; s++) {
                was[s] = places[s].copy();
            }
            for (int s = 0; s < 96; s++) {
                int least = NONE;
                for (int to = 0; to < 96 && was[s].land && was[s].ditch > 0; to++) {
                    if (steps(s, to) == 1 && was[to].land && was[to].ditch > 0
                            && (least == NONE || was[to].level() < was[least].level())) {
                        least = to;
                    }
                }
                if (least != NONE && was[least].level() < was[s].level()) {
                    long gives = (was[s].level() - was[least].level()) / 2;
                    gives = Math.min(gives, Math.min(was[s].ditch, was[least].ditch));
                    gives = Math.min(gives, was[s].water);
                    long salt = was[s].salt * gives / (was[s].water + 10);
                    places[s].water -= gives;
                    places[s].salt -= salt;
                    places[least].water += gives;
                    places[least].salt += salt;
                }
            }
        }

        private void endOfDay() {
            for (Place p : places) {
                if (!p.land) {
                    continue;
                }
                if (p.water > 0) {
                    p.dry = 0;
                    p.wet++;
                    continue;
                }
                p.dry++;
                if (p.soil == 2 && p.dry % 3 == 0 || p.soil == 1 && p.dry % 10 == 0) {
                    p.height--;
                }
                p.salt -= p.salt / 100;
            }
        }
    }

    // ---- a law ----------------------------------------------------------------------------------

    /** A condition over the FACTS, by their names. */
    interface Condition {
        boolean holds(Map<String, Long> facts);
    }

    interface Sum {
        long of(Map<String, Long> facts);
    }

    static final class Line {
        String kind;
        int[] numbers;
        Condition condition = facts -> true;
    }

    static final class WrongByte extends RuntimeException {
        private static final long serialVersionUID = 1L;
        final int at;

        WrongByte(int at) {
            this.at = at;
        }
    }

    /** Reads a text sign by sign. */
    static final class Reader {
        private static final String FACTS = " acres gain age sons coin cattle kin board near owes ";
        private final String text;
        private int at;

        Reader(String text) {
            this.text = text;
        }

        List<Line> law() {
            List<Line> lines = new ArrayList<>();
            if (peek().isEmpty()) {
                return lines;
            }
            lines.add(line());
            while (peek().equals(";")) {
                next();
                if (lines.size() == 20) {
                    throw new WrongByte(begin());
                }
                lines.add(line());
            }
            if (!peek().isEmpty()) {
                throw new WrongByte(begin());
            }
            return lines;
        }

        private int begin() {
            int i = at;
            while (i < text.length() && text.charAt(i) == ' ') {
                i++;
            }
            return i;
        }

        /** The next thing, empty at the end: a word, a number, or one sign. */
        private String peek() {
            int i = begin();
            if (i == text.length()) {
                return "";
            }
            int j = i;
            while (j < text.length() && text.charAt(j) >= 'a' && text.charAt(j) <= 'z') {
                j++;
            }
            if (j == i) {
                while (j < text.length() && text.charAt(j) >= '0' && text.charAt(j) <= '9') {
                    j++;
                }
            }
            return text.substring(i, Math.max(j, i + 1));
        }

        private String next() {
            String thing = peek();
            at = begin() + thing.length();
            return thing;
        }

        private void need(String thing) {
            if (!peek().equals(thing)) {
                throw new WrongByte(begin());
            }
            next();
        }

        private int number(int most) {
            String thing = peek();
            if (!thing.matches("[0-9]{1,5}") || Integer.parseInt(thing) > most) {
                throw new WrongByte(begin());
            }
            return Integer.parseInt(next());
        }

        private Line line() {
            Line line = new Line();
            int from = begin();
            line.kind = next();
            boolean may = false;
            switch (line.kind) {
                case "level":
                    int summer = number(900);
                    int winter = number(900);
                    need("in");
                    int corner = number(95);
                    line.numbers = new int[] {summer, winter, corner, number(95)};
                    break;
                case "pass":
                    line.numbers = new int[] {number(100)};
                    break;
                case "bar":
                    line.numbers = new int[] {number(18)};
                    break;
                case "call":
                case "out":
                    line.numbers = new int[] {0};
                    may = true;
                    break;
                case "dues":
                case "gain":
                case "votes":
                case "fine":
                case "mark":
                    line.numbers = new int[] {number(99999)};
                    may = true;
                    break;
                default:
                    throw new WrongByte(from);
            }
            if (may && peek().equals("if")) {
                next();
                line.condition = any(0);
            }
            return line;
        }

        private Condition any(int deep) {
            Condition one = all(deep);
            while (peek().equals("or")) {
                next();
                Condition left = one;
                Condition right = all(deep);
                one = facts -> left.holds(facts) || right.holds(facts);
            }
            return one;
        }

        private Condition all(int deep) {
            Condition one = atom(deep);
            while (peek().equals("and")) {
                next();
                Condition left = one;
                Condition right = atom(deep);
                one = facts -> left.holds(facts) && right.holds(facts);
            }
            return one;
        }

        private Condition atom(int deep) {
            String thing = peek();
            if (thing.equals("not") || thing.equals("(")) {
                if (deep == 6) {
                    throw new WrongByte(begin());
                }
                next();
                if (thing.equals("not")) {
                    Condition inside = atom(deep + 1);
                    return facts -> !inside.holds(facts);
                }
                Condition inside = any(deep + 1);
                need(")");
                return inside;
            }
            Sum left = sum();
            thing = peek();
            if (!thing.equals("<") && !thing.equals(">")) {
                throw new WrongByte(begin());
            }
            next();
            Sum right = sum();
            boolean less = thing.equals("<");
            return facts -> less ? left.of(facts) < right.of(facts) : left.of(facts) > right.of(facts);
        }

        private Sum sum() {
            Sum one = part();
            while (peek().equals("+")) {
                next();
                Sum left = one;
                Sum right = part();
                one = facts -> left.of(facts) + right.of(facts);
            }
            return one;
        }

        private Sum part() {
            String thing = peek();
            if (!thing.isEmpty() && FACTS.contains(" " + thing + " ")) {
                next();
                return facts -> facts.get(thing);
            }
            long n = number(99999);
            return facts -> n;
        }
    }

    // ---- people ---------------------------------------------------------------------------------

    static final class Person {
        int number;
        long age;
        long sons;
        long coin;
        long cattle;
        boolean kin;
        boolean board;
        int drawn;
        int farm = NONE;
        long gain;
        long owes;
        boolean came;
        boolean said;
    }

    static final class Farm {
        final List<Integer> squares = new ArrayList<>();
        int crop;
        boolean had;
    }

    static final class Deal {
        int work;
        int clay;
        int price;
        int bound;
        boolean paid;
        final List<Integer> measures = new ArrayList<>();
    }

    private Nature nature = new Nature();
    private Nature image;
    private final List<int[]> rows = new ArrayList<>();
    private final List<Nature> begins = new ArrayList<>();
    private final StringBuilder tape = new StringBuilder();
    private List<Line> law = new ArrayList<>();
    private List<Line> proposed;
    private long yes;
    private long said;
    private int fault = NONE;
    private final List<Person> people = new ArrayList<>();
    private final List<Farm> farms = new ArrayList<>();
    private final List<Integer> harvests = new ArrayList<>();
    private final List<Deal> deals = new ArrayList<>();
    private final List<int[]> jobs = new ArrayList<>();
    private long coin;

    // ---- what may be asked ----------------------------------------------------------------------

    private static int steps(int a, int b) {
        return Math.abs(a % 12 - b % 12) + Math.abs(a / 12 - b / 12);
    }

    private static List<Integer> rectangle(int a, int b) {
        List<Integer> all = new ArrayList<>();
        for (int y = Math.min(a / 12, b / 12); y <= Math.max(a / 12, b / 12); y++) {
            for (int x = Math.min(a % 12, b % 12); x <= Math.max(a % 12, b % 12); x++) {
                all.add(12 * y + x);
            }
        }
        return all;
    }

    private static void index(int i, int many) {
        if (i < 0 || i >= many) {
            throw new IndexOutOfBoundsException();
        }
    }

    private static void bounds(int n, int least, int most) {
        if (n < least || n > most) {
            throw new IllegalArgumentException();
        }
    }

    private static void what(int n, int most) {
        if (n < 0 || n > most) {
            throw new NoSuchElementException();
        }
    }

    private Thing thing(int work) {
        index(work, nature.works.size());
        return nature.works.get(work);
    }

    private static void kind(boolean right) {
        if (!right) {
            throw new ClassCastException();
        }
    }

    private void told() {
        rows.clear();
        begins.clear();
    }

    // ---- the tape -------------------------------------------------------------------------------

    public int feed(int a, int b, int c, int d, int e) {
        if (tape.length() + 20 > 400) {
            return NONE;
        }
        for (int n : new int[] {a, b, c, d, e}) {
            tape.append((char) (n >>> 24)).append((char) (n >>> 16 & 255)).append((char) (n >>> 8 & 255)).append((char) (n & 255));
        }
        return tape.length();
    }

    public boolean end(int n) {
        if (n < 0 || n > tape.length()) {
            return false;
        }
        tape.setLength(n);
        return true;
    }

    // ---- land, sky, works -----------------------------------------------------------------------

    public int land(int from, int to, int height, int soil, int ditch) {
        index(from, 96);
        index(to, 96);
        bounds(height, -900, 300);
        bounds(soil, 0, 2);
        bounds(ditch, 0, 20);
        if (nature.hour > 0) {
            throw new IllegalStateException();
        }
        int sea = 0;
        for (int s : rectangle(from, to)) {
            Place p = nature.places[s];
            sea += p.land ? 0 : 1;
            nature.told -= p.water;
            p.land = true;
            p.height = height;
            p.soil = soil;
            p.ditch = ditch;
            p.water = 0;
            p.salt = 0;
        }
        told();
        return sea;
    }

    public boolean fill(int square, int water, int salt) {
        index(square, 96);
        bounds(water, 0, 900);
        bounds(salt, 0, 100000);
        Place p = nature.places[square];
        if (!p.land) {
            return false;
        }
        nature.told += water - p.water;
        p.water = water;
        p.salt = salt;
        told();
        return true;
    }

    public void tide(int at, int level) {
        bounds(at, 0, 11);
        bounds(level, -400, 400);
        nature.tide[at] = level;
        told();
    }

    public int storm(int from, int to, int more) {
        bounds(from, 0, 40000);
        bounds(to, from, 40000);
        bounds(more, 1, 500);
        if (nature.storms.size() == 20) {
            return NONE;
        }
        nature.storms.add(new int[] {from, to, more});
        told();
        return nature.storms.size();
    }

    public int weather(boolean rain, int hour, int n) {
        bounds(hour, 0, 40000);
        bounds(n, rain ? 0 : NONE, rain ? 20 : 9);
        List<int[]> all = rain ? nature.rains : nature.winds;
        if (all.size() == 60) {
            return NONE;
        }
        all.add(new int[] {hour, n});
        told();
        return all.size();
    }

    public int sky(int hour, int what) {
        what(hour, 40000);
        what(what, 2);
        return what == 0 ? nature.outside(hour) : what == 1 ? nature.wind(hour) : nature.rain(hour);
    }

    private int workOn(int square) {
        for (int i = 0; i < nature.works.size(); i++) {
            if (nature.works.get(i).square == square) {
                return i;
            }
        }
        return NONE;
    }

    private int build(Kind kind, int square, int to, int number) {
        Thing t = new Thing();
        t.kind = kind;
        t.square = square;
        t.to = to;
        t.number = number;
        nature.works.add(t);
        told();
        return nature.works.size() - 1;
    }

    private void room() {
        if (nature.works.size() == 30) {
            throw new UnsupportedOperationException();
        }
    }

    public int dike(int square, int sea, int inland, int limit) {
        index(square, 96);
        index(sea, 96);
        index(inland, 96);
        bounds(limit, 1, 1000);
        room();
        Place[] p = nature.places;
        boolean may = workOn(square) == NONE && p[square].land && !p[sea].land && steps(square, sea) == 1
                && p[inland].land && steps(square, inland) == 1;
        return may ? build(Kind.DIKE, square, inland, limit) : NONE;
    }

    public int layer(int work, int thick, int clay) {
        Thing t = thing(work);
        bounds(thick, 1, 300);
        bounds(clay, 0, 9);
        kind(t.bank());
        if (t.kind == Kind.BREACH || t.layers.size() == 6) {
            return NONE;
        }
        t.layers.add(new int[] {thick, clay});
        told();
        return t.layers.size();
    }

    public int mill(int square, int to, int power, boolean engine) {
        index(square, 96);
        index(to, 96);
        bounds(power, 1, 60);
        room();
        boolean may = workOn(square) == NONE && nature.places[square].land && steps(square, to) == 1 && mayBuild(square);
        return may ? build(engine ? Kind.ENGINE : Kind.MILL, square, to, power) : NONE;
    }

    public int sluice(int square, int sea, int gate) {
        index(square, 96);
        index(sea, 96);
        bounds(gate, 1, 60);
        room();
        boolean may = workOn(square) == NONE && nature.places[square].land && steps(square, sea) == 1
                && !nature.places[sea].land;
        return may ? build(Kind.SLUICE, square, sea, gate) : NONE;
    }

    public boolean turn(int work, boolean on) {
        Thing t = thing(work);
        kind(t.kind == Kind.ENGINE || t.kind == Kind.SLUICE);
        boolean other = t.on != on;
        t.on = on;
        told();
        return other;
    }

    public int coal(int work, int n) {
        Thing t = thing(work);
        bounds(n, 0, 10000);
        bounds(t.coal + n, 0, 100000);
        kind(t.kind == Kind.ENGINE);
        t.coal += n;
        told();
        return t.coal;
    }

    public int work(int work, int what) {
        Thing t = thing(work);
        what(what, 7);
        long five = t.kind == Kind.DIKE ? nature.crest(t) : t.kind == Kind.BREACH ? t.width : t.number;
        long six = t.bank() ? t.layers.size() : t.kind == Kind.ENGINE ? t.coal : 0;
        return (int) new long[] {t.kind.ordinal(), t.square, t.kind == Kind.DIKE ? 1 : 0, t.latest, t.all, five, six, t.on ? 1 : 0}[what];
    }

    public int seep(int work, int outside) {
        Thing t = thing(work);
        bounds(outside, -1000, 1000);
        kind(t.bank());
        return t.kind == Kind.BREACH ? 0 : (int) nature.seep(t, outside);
    }

    public boolean shut(int work) {
        Thing t = thing(work);
        kind(t.kind == Kind.BREACH);
        t.kind = Kind.DIKE;
        told();
        return true;
    }

    public int hours(int n) {
        bounds(n, 0, 240);
        int last = Math.min(40000, nature.hour + n);
        while (nature.hour < last) {
            begins.add(nature.hour < last - 24 ? null : nature.copy());
            nature.anHour();
            rows.add(levelsOf(nature));
            if (rows.size() > 24) {
                rows.remove(0);
                begins.remove(0);
            }
        }
        return nature.hour;
    }

    private static int[] levelsOf(Nature nature) {
        int[] row = new int[96];
        for (int s = 0; s < 96; s++) {
            row[s] = (int) nature.level(s);
        }
        return row;
    }

    public int square(int square, int what) {
        index(square, 96);
        what(what, 10);
        Place p = nature.places[square];
        int farm = NONE;
        for (int i = 0; i < farms.size(); i++) {
            farm = farms.get(i).squares.contains(square) ? i : farm;
        }
        return (int) new long[] {p.land ? 1 : 0, p.height, p.soil, p.ditch, p.water, p.salt, nature.level(square), p.dry, p.wet,
            farm, workOn(square)}[what];
    }

    // ---- the law --------------------------------------------------------------------------------

    private List<Line> readTape() {
        String text = tape.toString();
        tape.setLength(0);
        fault = NONE;
        try {
            return new Reader(text).law();
        } catch (WrongByte e) {
            fault = e.at;
            throw new IllegalArgumentException();
        }
    }

    public int found() {
        List<Line> lines = readTape();
        if (holders() > 0) {
            throw new IllegalStateException();
        }
        law = lines;
        return lines.size();
    }

    public int propose() {
        List<Line> lines = readTape();
        if (proposed != null) {
            throw new IllegalStateException();
        }
        proposed = lines;
        yes = 0;
        said = 0;
        people.forEach(p -> p.said = false);
        return lines.size();
    }

    public int fault() {
        return fault;
    }

    private Person person(int settler) {
        index(settler, people.size());
        return people.get(settler);
    }

    private int holders() {
        return (int) people.stream().filter(p -> p.farm != NONE).count();
    }

    private int toBank(int square) {
        return nature.works.stream().filter(Thing::bank).mapToInt(t -> steps(square, t.square)).min().orElse(99);
    }

    private int near(Person p) {
        return p.farm == NONE ? 99 : farms.get(p.farm).squares.stream().mapToInt(this::toBank).min().orElse(99);
    }

    private int acres(Person p) {
        return p.farm == NONE ? 0 : farms.get(p.farm).squares.size();
    }

    private Map<String, Long> facts(Person p) {
        Map<String, Long> all = new TreeMap<>();
        all.put("age", p.age);
        all.put("sons", p.sons);
        all.put("coin", p.coin);
        all.put("cattle", p.cattle);
        all.put("kin", p.kin ? 1L : 0L);
        all.put("board", p.board ? 1L : 0L);
        all.put("acres", (long) acres(p));
        all.put("near", (long) near(p));
        all.put("gain", p.gain);
        all.put("owes", p.owes);
        return all;
    }

    private long sum(Person p, String kind) {
        Map<String, Long> facts = facts(p);
        return law.stream().filter(l -> l.kind.equals(kind) && l.condition.holds(facts)).mapToLong(l -> l.numbers[0]).sum();
    }

    private int first(Person p, String kind) {
        Map<String, Long> facts = facts(p);
        for (int i = 0; i < law.size(); i++) {
            if (law.get(i).kind.equals(kind) && law.get(i).condition.holds(facts)) {
                return i;
            }
        }
        return NONE;
    }

    private int last(String kind, int without) {
        int n = without;
        for (Line line : law) {
            n = line.kind.equals(kind) ? line.numbers[0] : n;
        }
        return n;
    }

    private long duesAndGain(Person p) {
        return (100 * sum(p, "dues") + sum(p, "gain") * p.gain) / 100;
    }

    public int vote(int settler, boolean says) {
        Person p = person(settler);
        if (proposed == null) {
            throw new IllegalStateException();
        }
        if (p.farm == NONE || p.said) {
            return NONE;
        }
        p.said = true;
        long votes = sum(p, "votes");
        yes += says ? votes : 0;
        said += votes;
        return (int) votes;
    }

    public boolean close() {
        if (proposed == null) {
            throw new IllegalStateException();
        }
        boolean passes = yes * 100 > last("pass", 50) * said;
        law = passes ? proposed : law;
        proposed = null;
        return passes;
    }

    public int rules(int settler, int what) {
        Person p = person(settler);
        what(what, 5);
        return (int) new long[] {duesAndGain(p), sum(p, "votes"), sum(p, "fine"), sum(p, "mark"), first(p, "call") == NONE ? 0 : 1,
            first(p, "out") == NONE ? 0 : 1}[what];
    }

    public int why(int settler, int what) {
        Person p = person(settler);
        what(what, 6);
        return first(p, new String[] {"dues", "gain", "votes", "fine", "mark", "call", "out"}[what]);
    }

    public int lawLevel(int square) {
        index(square, 96);
        int day = nature.hour / 24 % 360;
        int level = 1000;
        for (Line line : law) {
            if (line.kind.equals("level") && rectangle(line.numbers[2], line.numbers[3]).contains(square)) {
                level = -line.numbers[day >= 90 && day <= 269 ? 0 : 1];
            }
        }
        return level;
    }

    public boolean mayBuild(int square) {
        index(square, 96);
        return !(toBank(square) < last("bar", 0));
    }

    // ---- people and farms -----------------------------------------------------------------------

    public int settler(int age, int sons, int coin, int cattle, boolean kin, boolean board, int drawn) {
        bounds(age, 0, 99);
        bounds(sons, 0, 20);
        bounds(coin, 0, 100000);
        bounds(cattle, 0, 100);
        bounds(drawn, 0, 999999);
        if (people.size() == 60) {
            throw new UnsupportedOperationException();
        }
        Person p = new Person();
        p.number = people.size();
        p.age = age;
        p.sons = sons;
        p.coin = coin;
        p.cattle = cattle;
        p.kin = kin;
        p.board = board;
        p.drawn = drawn;
        people.add(p);
        return p.number;
    }

    public int farm(int from, int to) {
        index(from, 96);
        index(to, 96);
        for (int s : rectangle(from, to)) {
            if (!nature.places[s].land || square(s, 9) != NONE) {
                return NONE;
            }
        }
        if (farms.size() == 30) {
            return NONE;
        }
        Farm farm = new Farm();
        farm.squares.addAll(rectangle(from, to));
        farms.add(farm);
        return farms.size() - 1;
    }

    public int worth(int farm) {
        index(farm, farms.size());
        long sum = 0;
        for (int s : farms.get(farm).squares) {
            Place p = nature.places[s];
            sum += Math.max(0, new int[] {100, 150, 60}[p.soil] - p.salt / 100);
        }
        return (int) sum;
    }

    public int choose(int n) {
        bounds(n, 0, 60);
        List<Person> may = new ArrayList<>();
        Map<Integer, Long> marks = new TreeMap<>();
        for (Person p : people) {
            if (p.farm == NONE && first(p, "out") == NONE) {
                may.add(p);
                marks.put(p.number, sum(p, "mark"));
            }
        }
        may.sort((a, b) -> {
            int byMark = Long.compare(marks.get(b.number), marks.get(a.number));
            int byDrawn = Integer.compare(a.drawn, b.drawn);
            return byMark != 0 ? byMark : byDrawn != 0 ? byDrawn : Integer.compare(a.number, b.number);
        });
        int became = 0;
        for (Person p : may.subList(0, Math.min(n, may.size()))) {
            int best = NONE;
            for (int i = 0; i < farms.size(); i++) {
                if (!farms.get(i).had && (best == NONE || worth(i) > worth(best))) {
                    best = i;
                }
            }
            if (best != NONE) {
                farms.get(best).had = true;
                p.farm = best;
                became++;
            }
        }
        return became;
    }

    public boolean sow(int farm, int crop) {
        index(farm, farms.size());
        bounds(crop, 0, 3);
        boolean other = farms.get(farm).crop != crop;
        farms.get(farm).crop = crop;
        return other;
    }

    public boolean come(int settler) {
        Person p = person(settler);
        boolean answer = p.farm != NONE && !p.came;
        p.came = true;
        return answer;
    }

    public int harvest() {
        int year = nature.hour / 24 / 360;
        if (harvests.contains(year)) {
            return NONE;
        }
        harvests.add(year);
        long all = 0;
        for (Person p : people) {
            if (p.farm != NONE) {
                p.gain = brought(farms.get(p.farm));
                p.coin += p.gain;
                all += p.gain;
            }
        }
        for (Place p : nature.places) {
            p.wet = 0;
        }
        for (Person p : people) {
            if (p.farm != NONE) {
                long due = duesAndGain(p) + (first(p, "call") != NONE && !p.came ? sum(p, "fine") : 0);
                p.owes += due;
                long pays = Math.min(p.owes, p.coin);
                p.owes -= pays;
                p.coin -= pays;
                coin = Math.min(2000000000L, coin + pays);
            }
            p.came = false;
        }
        return (int) all;
    }

    private long brought(Farm farm) {
        int[] crop = new int[][] {{0, 0, 0}, {60, 4000, 20}, {20, 2000, 50}, {10, 8000, 40}}[farm.crop];
        long sum = 0;
        for (int s : farm.squares) {
            Place p = nature.places[s];
            int not = (p.wet > crop[0] ? 1 : 0) + (p.salt > crop[1] ? 1 : 0);
            sum += not == 0 ? crop[2] : not == 1 ? crop[2] / 2 : 0;
        }
        return sum;
    }

    public int who(int settler, int what) {
        Person p = person(settler);
        what(what, 5);
        return (int) new long[] {p.farm, p.coin, p.gain, p.owes, acres(p), near(p)}[what];
    }

    public int arrears(int n) {
        List<Person> owing = new ArrayList<>(people);
        owing.removeIf(p -> p.owes == 0);
        owing.sort((a, b) -> a.owes != b.owes ? Long.compare(b.owes, a.owes) : Integer.compare(a.number, b.number));
        return n < 0 || n >= owing.size() ? NONE : owing.get(n).number;
    }

    // ---- coin and contracts ---------------------------------------------------------------------

    public int coin(int n) {
        bounds(n, 0, 1000000);
        if (coin + n > 2000000000L) {
            throw new IllegalArgumentException();
        }
        coin += n;
        return (int) coin;
    }

    public int contract(int work, int clay, int price, int bound) {
        Thing t = thing(work);
        bounds(clay, 0, 9);
        bounds(price, 1, 1000);
        bounds(bound, 0, 200);
        kind(t.bank());
        if (deals.size() == 40) {
            return NONE;
        }
        Deal deal = new Deal();
        deal.work = work;
        deal.clay = clay;
        deal.price = price;
        deal.bound = bound;
        deals.add(deal);
        return deals.size() - 1;
    }

    /** The numbers that all measures say, one by one. */
    private int[] span(Deal deal) {
        int least = NONE;
        int most = NONE;
        for (int n = 0; n <= 2200 && !deal.measures.isEmpty(); n++) {
            int at = n;
            if (deal.measures.stream().allMatch(m -> at >= m - deal.bound && at <= m + deal.bound)) {
                least = least == NONE ? n : least;
                most = n;
            }
        }
        return new int[] {least, most};
    }

    private Deal deal(int contract) {
        index(contract, deals.size());
        return deals.get(contract);
    }

    public boolean measure(int contract, int yards) {
        Deal deal = deal(contract);
        bounds(yards, 0, 2000);
        if (deal.paid) {
            throw new IllegalStateException();
        }
        deal.measures.add(yards);
        return span(deal)[0] != NONE;
    }

    public int yards(int contract, boolean most) {
        return span(deal(contract))[most ? 1 : 0];
    }

    public int pay(int contract) {
        Deal deal = deal(contract);
        int least = span(deal)[0];
        if (deal.paid || least == NONE) {
            return NONE;
        }
        Thing t = deal.work < nature.works.size() ? nature.works.get(deal.work) : null;
        int paid = least;
        if (t != null && t.bank()) {
            int soil = nature.places[t.square].soil;
            paid -= soil == 1 ? least / 10 : soil == 2 ? least / 5 : 0;
        }
        if (coin < (long) paid * deal.price) {
            return NONE;
        }
        coin -= (long) paid * deal.price;
        deal.paid = true;
        if (t != null && t.kind == Kind.DIKE && t.layers.size() < 6 && paid / 10 > 0) {
            t.layers.add(new int[] {paid / 10, deal.clay});
            told();
        }
        return paid * deal.price;
    }

    // ---- plans ----------------------------------------------------------------------------------

    public int lifts(int has, int comes, int n, int limit) {
        bounds(has, 0, 1000);
        bounds(comes, 0, 100);
        bounds(n, 1, 24);
        bounds(limit, 0, 1000);
        List<Integer> engines = new ArrayList<>();
        for (Thing t : nature.works) {
            if (t.kind == Kind.ENGINE && engines.size() < 5) {
                engines.add(t.number);
            }
        }
        // The least coal by which each amount of water can be there.
        TreeMap<Integer, Integer> ways = new TreeMap<>();
        ways.put(has, 0);
        for (int i = 1; i <= n; i++) {
            TreeMap<Integer, Integer> then = new TreeMap<>();
            int wind = nature.wind(nature.hour + i);
            for (Map.Entry<Integer, Integer> way : ways.entrySet()) {
                int water = way.getKey() + comes;
                for (Thing t : nature.works) {
                    water = Math.max(0, water - (t.kind == Kind.MILL ? t.number * wind / 10 : 0));
                }
                for (int run = 0; run < 1 << engines.size(); run++) {
                    int left = water;
                    for (int e = 0; e < engines.size(); e++) {
                        left = Math.max(0, left - ((run >> e & 1) == 1 ? engines.get(e) : 0));
                    }
                    if (left <= limit) {
                        then.merge(left, way.getValue() + Integer.bitCount(run), Math::min);
                    }
                }
            }
            ways = then;
        }
        return ways.values().stream().mapToInt(c -> c).min().orElse(NONE);
    }

    public int soonest(int work, int hands, int low) {
        Thing t = thing(work);
        bounds(hands, 1, 60);
        bounds(low, -1000, 1000);
        kind(t.kind == Kind.BREACH);
        int best = NONE;
        for (int begin = 1; begin <= 48; begin++) {
            int width = t.width;
            for (int i = 1; i <= 200; i++) {
                boolean closes = i >= begin && nature.outside(nature.hour + i) <= low;
                width = closes ? width - hands / 4 : Math.min(60, width + 2);
                if (width <= 0) {
                    best = best == NONE ? nature.hour + i : Math.min(best, nature.hour + i);
                    break;
                }
            }
        }
        return best;
    }

    public int levels(int farm, int step) {
        index(farm, farms.size());
        bounds(step, 0, 1000);
        List<Integer> squares = new ArrayList<>(farms.get(farm).squares);
        squares.sort(Integer::compare);
        squares = squares.subList(0, Math.min(6, squares.size()));
        int crop = farms.get(farm).crop;
        int ways = 1;
        for (int i = 0; i < squares.size(); i++) {
            ways *= 4;
        }
        int best = NONE;
        for (int way = 0; way < ways; way++) {
            int sum = 0;
            boolean right = true;
            for (int i = 0; i < squares.size(); i++) {
                int depth = 40 * (1 + (way >> 2 * i & 3));
                sum += depthWorth(crop, depth);
                for (int j = 0; j < i; j++) {
                    long other = nature.places[squares.get(j)].height - 40 * (1 + (way >> 2 * j & 3));
                    long own = nature.places[squares.get(i)].height - depth;
                    right &= steps(squares.get(i), squares.get(j)) != 1 || Math.abs(own - other) <= step;
                }
            }
            best = right ? Math.max(best, sum) : best;
        }
        return best;
    }

    private static int depthWorth(int crop, int depth) {
        int[] full = {0, 20, 50, 40};
        int[] wants = {0, 60, 120, 100};
        int[] part = {1, 5, 2, 3};
        return crop == 0 ? 0 : Math.max(0, full[crop] - Math.abs(depth - wants[crop]) / part[crop]);
    }

    public int job(int cost, int years, int brings, int acres) {
        bounds(cost, 0, 1000000);
        bounds(years, 1, 20);
        bounds(brings, 0, 100000);
        bounds(acres, 0, 1000);
        if (jobs.size() == 7) {
            return NONE;
        }
        jobs.add(new int[] {cost, years, brings, acres});
        return jobs.size();
    }

    public int order(int from, int place) {
        bounds(from, 0, 1000000);
        int[] best = null;
        long least = NONE;
        int[] order = new int[jobs.size()];
        for (int i = 0; i < order.length; i++) {
            order[i] = i;
        }
        boolean more = true;
        while (more) {
            long late = lateness(order, from);
            if (late != NONE && (best == null || late < least)) {
                best = order.clone();
                least = late;
            }
            more = nextOrder(order);
        }
        if (best == null) {
            return NONE;
        }
        return place == NONE ? (int) least : place >= 0 && place < best.length ? best[place] : NONE;
    }

    private static boolean nextOrder(int[] order) {
        int i = order.length - 2;
        while (i >= 0 && order[i] > order[i + 1]) {
            i--;
        }
        if (i < 0) {
            return false;
        }
        int j = order.length - 1;
        while (order[j] < order[i]) {
            j--;
        }
        int other = order[i];
        order[i] = order[j];
        order[j] = other;
        for (int a = i + 1, b = order.length - 1; a < b; a++, b--) {
            other = order[a];
            order[a] = order[b];
            order[b] = other;
        }
        return true;
    }

    private long lateness(int[] order, long has) {
        int year = 0;
        long brings = 0;
        long late = 0;
        for (int i : order) {
            int[] job = jobs.get(i);
            while (has < job[0]) {
                if (year > 200) {
                    return NONE;
                }
                year++;
                has += brings;
            }
            has -= job[0];
            for (int y = 0; y < job[1]; y++) {
                year++;
                has += brings;
            }
            if (year > 200) {
                return NONE;
            }
            brings += job[2];
            late += (long) job[3] * year;
        }
        return late;
    }

    public int jobs() {
        int were = jobs.size();
        jobs.clear();
        return were;
    }

    // ---- rows, image, counts --------------------------------------------------------------------

    public int row(int i, int square) {
        index(square, 96);
        what(i, rows.size() - 1);
        return rows.get(i)[square];
    }

    public int tear(int i, int square, int mask) {
        index(square, 96);
        what(i, rows.size() - 1);
        rows.get(i)[square] ^= mask;
        return rows.get(i)[square];
    }

    public int check() {
        Nature again = begins.isEmpty() ? null : begins.get(0).copy();
        for (int i = 0; i < rows.size(); i++) {
            again.anHour();
            int[] due = levelsOf(again);
            for (int s = 0; s < 96; s++) {
                if (due[s] != rows.get(i)[s]) {
                    return 96 * i + s;
                }
            }
        }
        return NONE;
    }

    public boolean keep() {
        if (nature.hour == 0) {
            return false;
        }
        image = nature.copy();
        return true;
    }

    public boolean back() {
        if (image == null || image.hour > nature.hour) {
            return false;
        }
        nature = image.copy();
        told();
        return true;
    }

    public int count(int what) {
        long water = 0;
        long salt = 0;
        for (Place p : nature.places) {
            water += p.water;
            salt += p.salt;
        }
        long breaches = nature.works.stream().filter(t -> t.kind == Kind.BREACH).count();
        long owed = people.stream().mapToLong(p -> p.owes).sum();
        long[] all = {nature.hour, nature.hour / 24, nature.works.size(), breaches, water, salt, law.size(), people.size(), holders(),
            farms.size(), coin, owed, deals.size(), nature.rained, nature.cameIn, nature.wentOut, nature.told, rows.size()};
        return what < 0 || what >= all.length ? NONE : (int) all[what];
    }
}
