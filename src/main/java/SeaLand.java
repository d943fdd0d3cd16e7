import java.util.Arrays;
import java.util.NoSuchElementException;

/** Land from the sea, as ../shared/DOC.md tells it: each public method is a promise of that document. */
public final class SeaLand {
    public static final int NONE = -1;

    private static final int WIDE = 12;
    private static final int SQUARES = 96;
    private static final int LAST_HOUR = 40000;
    private static final int DAY_HOURS = 24;
    private static final int YEAR_DAYS = 360;
    private static final int YEARS = 5;
    private static final int TIDES = 12;
    private static final int MOST_STORMS = 20;
    private static final int MOST_TELLINGS = 60;
    private static final int MOST_WORKS = 30;
    private static final int MOST_LAYERS = 6;
    private static final int MOST_LINES = 20;
    private static final int MOST_TAPE = 400;
    private static final int MOST_SETTLERS = 60;
    private static final int MOST_FARMS = 30;
    private static final int MOST_CONTRACTS = 40;
    private static final int MOST_JOBS = 7;
    private static final int MOST_ROWS = 24;
    private static final int MOST_COIN = 2000000000;
    private static final int FAR = 99;
    private static final int NO_LEVEL = 1000;

    private static final int SAND = 0;
    private static final int CLAY = 1;
    private static final int PEAT = 2;

    private static final int DIKE = 0;
    private static final int BREACH = 1;
    private static final int MILL = 2;
    private static final int ENGINE = 3;
    private static final int SLUICE = 4;

    private final int[] tape = new int[MOST_TAPE];
    private final Lake lake = new Lake();
    private final Rows rows = new Rows();
    private final Board board = new Board();
    private final Contract[] contracts = new Contract[MOST_CONTRACTS];
    private final Plans plans = new Plans();
    private Lake image;
    private int taped;
    private int contracted;

    public SeaLand() {
    }

    // ---- the tape -------------------------------------------------------------------------------

    public int feed(int a, int b, int c, int d, int e) {
        if (taped + 20 > MOST_TAPE) {
            return NONE;
        }
        feedOne(a);
        feedOne(b);
        feedOne(c);
        feedOne(d);
        feedOne(e);
        return taped;
    }

    private void feedOne(int number) {
        for (int shift = 24; shift >= 0; shift -= 8) {
            tape[taped] = (number >>> shift) & 255;
            taped++;
        }
    }

    public boolean end(int n) {
        if (n < 0 || n > taped) {
            return false;
        }
        taped = n;
        return true;
    }

    // ---- the land and the sky -------------------------------------------------------------------

    public int land(int from, int to, int height, int soil, int ditch)
            throws IndexOutOfBoundsException, IllegalArgumentException, IllegalStateException {
        needSquare(from);
        needSquare(to);
        needNumbers(within(height, -900, 300) && within(soil, SAND, PEAT) && within(ditch, 0, 20));
        if (lake.hour > 0) {
            throw new IllegalStateException("land is told at hour 0 alone");
        }
        rows.forget();
        int fresh = 0;
        for (int square = 0; square < SQUARES; square++) {
            if (inRectangle(square, from, to)) {
                fresh += lake.ground.isLand[square] ? 0 : 1;
                lake.ground.tellLand(square, height, soil, ditch);
            }
        }
        return fresh;
    }

    public boolean fill(int square, int water, int salt) throws IndexOutOfBoundsException, IllegalArgumentException {
        needSquare(square);
        needNumbers(within(water, 0, 900) && within(salt, 0, 100000));
        if (!lake.ground.isLand[square]) {
            return false;
        }
        rows.forget();
        lake.ground.tellWater(square, water, salt);
        return true;
    }

    public void tide(int at, int level) throws IllegalArgumentException {
        needNumbers(within(at, 0, TIDES - 1) && within(level, -400, 400));
        rows.forget();
        lake.sky.tides[at] = level;
    }

    public int storm(int from, int to, int more) throws IllegalArgumentException {
        needNumbers(0 <= from && from <= to && to <= LAST_HOUR && within(more, 1, 500));
        if (lake.sky.storms == MOST_STORMS) {
            return NONE;
        }
        rows.forget();
        return lake.sky.tellStorm(from, to, more);
    }

    public int weather(boolean rain, int hour, int n) throws IllegalArgumentException {
        needNumbers(within(hour, 0, LAST_HOUR) && (rain ? within(n, 0, 20) : within(n, NONE, 9)));
        Tellings told = rain ? lake.sky.rain : lake.sky.wind;
        if (told.told == MOST_TELLINGS) {
            return NONE;
        }
        rows.forget();
        return told.tell(hour, n);
    }

    public int sky(int hour, int what) throws NoSuchElementException {
        if (!within(hour, 0, LAST_HOUR) || !within(what, 0, 2)) {
            throw new NoSuchElementException("no such hour, or nothing such of it");
        }
        if (what == 0) {
            return lake.sky.outsideAt(hour);
        }
        return what == 1 ? lake.sky.windAt(hour) : lake.sky.rainAt(hour);
    }

    // ---- the works ------------------------------------------------------------------------------

    public int dike(int square, int sea, int inland, int limit)
            throws IndexOutOfBoundsException, IllegalArgumentException, UnsupportedOperationException {
        needSquare(square);
        needSquare(sea);
        needSquare(inland);
        needNumbers(within(limit, 1, 1000));
        needRoomForWork();
        if (!lake.isFreeLand(square) || !lake.isSeaBeside(square, sea)
                || !lake.ground.isLand[inland] || stepsApart(square, inland) != 1) {
            return NONE;
        }
        rows.forget();
        return lake.build(DIKE, square, inland, limit);
    }

    public int layer(int work, int thick, int clay)
            throws IndexOutOfBoundsException, IllegalArgumentException, ClassCastException {
        Work at = workOf(work);
        needNumbers(within(thick, 1, 300) && within(clay, 0, 9));
        needKind(at.isBank());
        if (!at.takesLayer()) {
            return NONE;
        }
        rows.forget();
        at.addLayer(thick, clay);
        return at.layers;
    }

    public int mill(int square, int to, int power, boolean engine)
            throws IndexOutOfBoundsException, IllegalArgumentException, UnsupportedOperationException {
        needSquare(square);
        needSquare(to);
        needNumbers(within(power, 1, 60));
        needRoomForWork();
        if (!lake.isFreeLand(square) || stepsApart(square, to) != 1 || !board.buildingAllowed(square, lake)) {
            return NONE;
        }
        rows.forget();
        return lake.build(engine ? ENGINE : MILL, square, to, power);
    }

    public int sluice(int square, int sea, int gate)
            throws IndexOutOfBoundsException, IllegalArgumentException, UnsupportedOperationException {
        needSquare(square);
        needSquare(sea);
        needNumbers(within(gate, 1, 60));
        needRoomForWork();
        if (!lake.isFreeLand(square) || !lake.isSeaBeside(square, sea)) {
            return NONE;
        }
        rows.forget();
        return lake.build(SLUICE, square, sea, gate);
    }

    public boolean turn(int work, boolean on) throws IndexOutOfBoundsException, ClassCastException {
        Work at = workOf(work);
        needKind(at.kind == ENGINE || at.kind == SLUICE);
        rows.forget();
        boolean other = at.on != on;
        at.on = on;
        return other;
    }

    public int coal(int work, int n) throws IndexOutOfBoundsException, IllegalArgumentException, ClassCastException {
        Work at = workOf(work);
        needNumbers(within(n, 0, 10000) && at.coal + n <= 100000);
        needKind(at.kind == ENGINE);
        rows.forget();
        at.coal += n;
        return at.coal;
    }

    public int work(int work, int what) throws IndexOutOfBoundsException, NoSuchElementException {
        Work at = workOf(work);
        switch (what) {
            case 0:
                return at.kind;
            case 1:
                return at.square;
            case 2:
                return at.kind == DIKE ? 1 : 0;
            case 3:
                return at.latest;
            case 4:
                return at.total;
            case 5:
                return lake.sizeOf(at);
            case 6:
                return at.isBank() ? at.layers : at.coal;
            case 7:
                return at.on ? 1 : 0;
            default:
                throw new NoSuchElementException("nothing such of a work");
        }
    }

    public int seep(int work, int outside)
            throws IndexOutOfBoundsException, IllegalArgumentException, ClassCastException {
        Work at = workOf(work);
        needNumbers(within(outside, -1000, 1000));
        needKind(at.isBank());
        return at.kind == BREACH ? 0 : lake.seepOf(at, outside);
    }

    public boolean shut(int work) throws IndexOutOfBoundsException, ClassCastException {
        Work at = workOf(work);
        needKind(at.kind == BREACH);
        rows.forget();
        at.kind = DIKE;
        return true;
    }

    public int hours(int n) throws IllegalArgumentException {
        needNumbers(within(n, 0, 240));
        for (int i = 0; i < n && lake.hour < LAST_HOUR; i++) {
            lake.passHour();
            rows.write(lake);
        }
        return lake.hour;
    }

    public int square(int square, int what) throws IndexOutOfBoundsException, NoSuchElementException {
        needSquare(square);
        Ground ground = lake.ground;
        switch (what) {
            case 0:
                return ground.isLand[square] ? 1 : 0;
            case 1:
                return ground.height[square];
            case 2:
                return ground.soil[square];
            case 3:
                return ground.ditch[square];
            case 4:
                return ground.water[square];
            case 5:
                return ground.salt[square];
            case 6:
                return lake.levelNow(square);
            case 7:
                return ground.dry[square];
            case 8:
                return ground.wet[square];
            case 9:
                return board.farmOf[square];
            case 10:
                return lake.workOn(square);
            default:
                throw new NoSuchElementException("nothing such of a square");
        }
    }

    // ---- the law and the vote -------------------------------------------------------------------

    public int found() throws IllegalArgumentException, IllegalStateException {
        board.fault = board.spare.read(tape, taped);
        taped = 0;
        needNumbers(board.fault == NONE);
        if (board.holding > 0) {
            throw new IllegalStateException("there are holders");
        }
        return board.foundSpare();
    }

    public int propose() throws IllegalArgumentException, IllegalStateException {
        board.fault = board.spare.read(tape, taped);
        taped = 0;
        needNumbers(board.fault == NONE);
        if (board.voting) {
            throw new IllegalStateException("a vote goes on");
        }
        return board.proposeSpare();
    }

    public int fault() {
        return board.fault;
    }

    public int vote(int settler, boolean yes) throws IndexOutOfBoundsException, IllegalStateException {
        Settler one = settlerOf(settler);
        needVote();
        return board.hear(one, yes, lake);
    }

    public boolean close() throws IllegalStateException {
        needVote();
        return board.closeVote();
    }

    public int rules(int settler, int what) throws IndexOutOfBoundsException, NoSuchElementException {
        Settler one = settlerOf(settler);
        board.gatherFacts(one, lake);
        switch (what) {
            case 0:
                return board.duesAndGain();
            case 1:
                return board.ruled(Law.VOTES);
            case 2:
                return board.ruled(Law.FINE);
            case 3:
                return board.ruled(Law.MARK);
            case 4:
                return board.isRuled(Law.CALL) ? 1 : 0;
            case 5:
                return board.isRuled(Law.OUT) ? 1 : 0;
            default:
                throw new NoSuchElementException("no such rule");
        }
    }

    public int why(int settler, int what) throws IndexOutOfBoundsException, NoSuchElementException {
        Settler one = settlerOf(settler);
        if (!within(what, Law.DUES, Law.OUT)) {
            throw new NoSuchElementException("no such kind of line");
        }
        board.gatherFacts(one, lake);
        return board.force.firstThatHolds(what, board.facts);
    }

    public int lawLevel(int square) throws IndexOutOfBoundsException {
        needSquare(square);
        int day = lake.dayNow() % YEAR_DAYS;
        return board.force.levelFor(square, within(day, 90, 269));
    }

    public boolean mayBuild(int square) throws IndexOutOfBoundsException {
        needSquare(square);
        return board.buildingAllowed(square, lake);
    }

    // ---- settlers and farms ---------------------------------------------------------------------

    public int settler(int age, int sons, int coin, int cattle, boolean kin, boolean board, int drawn)
            throws IllegalArgumentException, UnsupportedOperationException {
        needNumbers(within(age, 0, 99) && within(sons, 0, 20) && within(coin, 0, 100000)
                && within(cattle, 0, 100) && within(drawn, 0, 999999));
        if (this.board.settled == MOST_SETTLERS) {
            throw new UnsupportedOperationException("there are sixty settlers");
        }
        return this.board.settle(new Settler(age, sons, coin, cattle, kin, board, drawn));
    }

    public int farm(int from, int to) throws IndexOutOfBoundsException {
        needSquare(from);
        needSquare(to);
        return board.farmMayBe(from, to, lake.ground) ? board.layOut(from, to) : NONE;
    }

    public int worth(int farm) throws IndexOutOfBoundsException {
        needFarm(farm);
        return board.worthOf(farm, lake.ground);
    }

    public int choose(int n) throws IllegalArgumentException {
        needNumbers(within(n, 0, MOST_SETTLERS));
        return board.giveFarms(n, lake);
    }

    public boolean sow(int farm, int crop) throws IndexOutOfBoundsException, IllegalArgumentException {
        needFarm(farm);
        needNumbers(within(crop, 0, 3));
        boolean other = board.crops[farm] != crop;
        board.crops[farm] = crop;
        return other;
    }

    public boolean come(int settler) throws IndexOutOfBoundsException {
        Settler one = settlerOf(settler);
        boolean first = one.farm != NONE && !one.came;
        one.came = true;
        return first;
    }

    public int harvest() {
        return board.reap(lake);
    }

    public int who(int settler, int what) throws IndexOutOfBoundsException, NoSuchElementException {
        Settler one = settlerOf(settler);
        switch (what) {
            case 0:
                return one.farm;
            case 1:
                return one.coin;
            case 2:
                return one.gain;
            case 3:
                return one.owes;
            case 4:
                return board.acresOf(one);
            case 5:
                return board.nearOf(one, lake);
            default:
                throw new NoSuchElementException("nothing such of a settler");
        }
    }

    public int arrears(int n) {
        return board.debtorOfRank(n);
    }

    // ---- the coin and the contracts -------------------------------------------------------------

    public int coin(int n) throws IllegalArgumentException {
        needNumbers(within(n, 0, 1000000) && board.coin <= MOST_COIN - n);
        board.coin += n;
        return board.coin;
    }

    public int contract(int work, int clay, int price, int bound)
            throws IndexOutOfBoundsException, IllegalArgumentException, ClassCastException {
        Work at = workOf(work);
        needNumbers(within(clay, 0, 9) && within(price, 1, 1000) && within(bound, 0, 200));
        needKind(at.isBank());
        if (contracted == MOST_CONTRACTS) {
            return NONE;
        }
        contracts[contracted] = new Contract(work, clay, price, bound);
        contracted++;
        return contracted - 1;
    }

    public boolean measure(int contract, int yards)
            throws IndexOutOfBoundsException, IllegalArgumentException, IllegalStateException {
        Contract at = contractOf(contract);
        needNumbers(within(yards, 0, 2000));
        if (at.paid) {
            throw new IllegalStateException("the contract is paid");
        }
        at.say(yards);
        return at.hasSpan();
    }

    public int yards(int contract, boolean most) throws IndexOutOfBoundsException {
        Contract at = contractOf(contract);
        if (!at.hasSpan()) {
            return NONE;
        }
        return most ? at.most : at.least;
    }

    public int pay(int contract) throws IndexOutOfBoundsException {
        Contract at = contractOf(contract);
        if (at.paid || !at.hasSpan()) {
            return NONE;
        }
        Work bank = bankOf(at);
        int paidYards = at.least - lessFor(bank, at.least);
        int sum = paidYards * at.price;
        if (sum > board.coin) {
            return NONE;
        }
        board.coin -= sum;
        at.paid = true;
        int thick = paidYards / 10;
        if (bank != null && bank.takesLayer() && thick > 0) {
            rows.forget();
            bank.addLayer(thick, at.clay);
        }
        return sum;
    }

    // Going back to the image may have taken the work away, or put one of another kind in its place.
    private Work bankOf(Contract contract) {
        if (contract.work >= lake.built) {
            return null;
        }
        Work at = lake.works[contract.work];
        return at.isBank() ? at : null;
    }

    private int lessFor(Work bank, int yards) {
        if (bank == null) {
            return 0;
        }
        int soil = lake.ground.soil[bank.square];
        if (soil == CLAY) {
            return yards / 10;
        }
        return soil == PEAT ? yards / 5 : 0;
    }

    // ---- the plans ------------------------------------------------------------------------------

    public int lifts(int has, int comes, int n, int limit) throws IllegalArgumentException {
        needNumbers(within(has, 0, 1000) && within(comes, 0, 100) && within(n, 1, 24) && within(limit, 0, 1000));
        return plans.leastCoal(lake, has, comes, n, limit);
    }

    public int soonest(int work, int hands, int low)
            throws IndexOutOfBoundsException, IllegalArgumentException, ClassCastException {
        Work at = workOf(work);
        needNumbers(within(hands, 1, 60) && within(low, -1000, 1000));
        needKind(at.kind == BREACH);
        return plans.closingHour(lake, at.width, hands, low);
    }

    public int levels(int farm, int step) throws IndexOutOfBoundsException, IllegalArgumentException {
        needFarm(farm);
        needNumbers(within(step, 0, 1000));
        return plans.bestLevels(board, farm, lake.ground, step);
    }

    public int job(int cost, int years, int brings, int acres) throws IllegalArgumentException {
        needNumbers(within(cost, 0, 1000000) && within(years, 1, 20)
                && within(brings, 0, 100000) && within(acres, 0, 1000));
        return plans.jobs == MOST_JOBS ? NONE : plans.addJob(cost, years, brings, acres);
    }

    public int order(int coin, int place) throws IllegalArgumentException {
        needNumbers(within(coin, 0, 1000000));
        plans.findOrder(coin);
        if (place == NONE) {
            return plans.bestLate;
        }
        return plans.bestLate != NONE && within(place, 0, plans.jobs - 1) ? plans.best[place] : NONE;
    }

    public int jobs() {
        int were = plans.jobs;
        plans.jobs = 0;
        return were;
    }

    // ---- the rows, the image, the counts --------------------------------------------------------

    public int row(int i, int square) throws IndexOutOfBoundsException, NoSuchElementException {
        needSquare(square);
        needRow(i);
        return rows.shown[rows.placeOf(i, square)];
    }

    public int tear(int i, int square, int mask) throws IndexOutOfBoundsException, NoSuchElementException {
        needSquare(square);
        needRow(i);
        int place = rows.placeOf(i, square);
        rows.shown[place] ^= mask;
        return rows.shown[place];
    }

    public int check() {
        return rows.firstTorn();
    }

    public boolean keep() {
        if (lake.hour == 0) {
            return false;
        }
        if (image == null) {
            image = new Lake();
        }
        image.copyFrom(lake);
        return true;
    }

    public boolean back() {
        if (image == null || image.hour > lake.hour) {
            return false;
        }
        lake.copyFrom(image);
        rows.forget();
        return true;
    }

    public int count(int what) {
        switch (what) {
            case 0:
                return lake.hour;
            case 1:
                return lake.dayNow();
            case 2:
                return lake.built;
            case 3:
                return lake.breaches();
            case 4:
                return lake.ground.allWater();
            case 5:
                return lake.ground.allSalt();
            case 13:
                return lake.ground.rained;
            case 14:
                return lake.ground.cameIn;
            case 15:
                return lake.ground.wentOut;
            case 16:
                return lake.ground.toldMore;
            case 17:
                return rows.kept;
            default:
                return countPeople(what);
        }
    }

    private int countPeople(int what) {
        switch (what) {
            case 6:
                return board.force.lines;
            case 7:
                return board.settled;
            case 8:
                return board.holding;
            case 9:
                return board.farms;
            case 10:
                return board.coin;
            case 11:
                return board.allArrears();
            case 12:
                return contracted;
            default:
                return NONE;
        }
    }

    // ---- what a call needs ----------------------------------------------------------------------

    private static boolean within(int n, int least, int most) {
        return least <= n && n <= most;
    }

    private static void needNumbers(boolean right) {
        if (!right) {
            throw new IllegalArgumentException("a number or a text is none");
        }
    }

    private static void needKind(boolean right) {
        if (!right) {
            throw new ClassCastException("the work is of another kind");
        }
    }

    private static void needSquare(int square) {
        if (!within(square, 0, SQUARES - 1)) {
            throw new IndexOutOfBoundsException("no such square");
        }
    }

    private void needFarm(int farm) {
        if (!within(farm, 0, board.farms - 1)) {
            throw new IndexOutOfBoundsException("no such farm");
        }
    }

    private void needRow(int i) {
        if (!within(i, 0, rows.kept - 1)) {
            throw new NoSuchElementException("no such row");
        }
    }

    private void needRoomForWork() {
        if (lake.built == MOST_WORKS) {
            throw new UnsupportedOperationException("there are thirty works");
        }
    }

    private void needVote() {
        if (!board.voting) {
            throw new IllegalStateException("no vote goes on");
        }
    }

    private Work workOf(int work) {
        if (!within(work, 0, lake.built - 1)) {
            throw new IndexOutOfBoundsException("no such work");
        }
        return lake.works[work];
    }

    private Settler settlerOf(int settler) {
        if (!within(settler, 0, board.settled - 1)) {
            throw new IndexOutOfBoundsException("no such settler");
        }
        return board.settlers[settler];
    }

    private Contract contractOf(int contract) {
        if (!within(contract, 0, contracted - 1)) {
            throw new IndexOutOfBoundsException("no such contract");
        }
        return contracts[contract];
    }

    private static int stepsApart(int a, int b) {
        return Math.abs(a % WIDE - b % WIDE) + Math.abs(a / WIDE - b / WIDE);
    }

    private static boolean inRectangle(int square, int from, int to) {
        return isBetween(square % WIDE, from % WIDE, to % WIDE) && isBetween(square / WIDE, from / WIDE, to / WIDE);
    }

    private static boolean isBetween(int n, int one, int other) {
        return Math.min(one, other) <= n && n <= Math.max(one, other);
    }

    /** What was told of WIND or of RAIN. */
    private static final class Tellings {
        // An hour that was told anew later is NONE here, so that only the latest telling of it counts.
        private final int[] hours = new int[MOST_TELLINGS];
        private final int[] numbers = new int[MOST_TELLINGS];
        private int told;

        int tell(int hour, int number) {
            for (int i = 0; i < told; i++) {
                if (hours[i] == hour) {
                    hours[i] = NONE;
                }
            }
            hours[told] = hour;
            numbers[told] = number;
            told++;
            return told;
        }

        int standingAt(int hour) {
            int found = NONE;
            int latest = NONE;
            for (int i = 0; i < told; i++) {
                if (hours[i] <= hour && hours[i] > latest) {
                    latest = hours[i];
                    found = i;
                }
            }
            return found;
        }

        int nearestNumberBefore(int hour) {
            int number = NONE;
            int nearest = NONE;
            for (int i = 0; i < told; i++) {
                if (numbers[i] != NONE && hours[i] < hour && hours[i] > nearest) {
                    nearest = hours[i];
                    number = numbers[i];
                }
            }
            return number;
        }

        int nearestNumberAfter(int hour) {
            int number = NONE;
            int nearest = LAST_HOUR + 1;
            for (int i = 0; i < told; i++) {
                if (numbers[i] != NONE && hours[i] > hour && hours[i] < nearest) {
                    nearest = hours[i];
                    number = numbers[i];
                }
            }
            return number;
        }

        void copyFrom(Tellings other) {
            System.arraycopy(other.hours, 0, hours, 0, MOST_TELLINGS);
            System.arraycopy(other.numbers, 0, numbers, 0, MOST_TELLINGS);
            told = other.told;
        }
    }

    /** TIDE, STORMS, WIND and RAIN. */
    private static final class Sky {
        private final int[] tides = new int[TIDES];
        private final int[] stormFrom = new int[MOST_STORMS];
        private final int[] stormTo = new int[MOST_STORMS];
        private final int[] stormMore = new int[MOST_STORMS];
        private final Tellings wind = new Tellings();
        private final Tellings rain = new Tellings();
        private int storms;

        int tellStorm(int from, int to, int more) {
            stormFrom[storms] = from;
            stormTo[storms] = to;
            stormMore[storms] = more;
            storms++;
            return storms;
        }

        int outsideAt(int hour) {
            int level = tides[Math.floorMod(hour, TIDES)];
            for (int i = 0; i < storms; i++) {
                if (stormFrom[i] <= hour && hour <= stormTo[i]) {
                    level += stormMore[i];
                }
            }
            return level;
        }

        int windAt(int hour) {
            int at = wind.standingAt(hour);
            if (at == NONE) {
                return 0;
            }
            if (wind.numbers[at] != NONE) {
                return wind.numbers[at];
            }
            int own = wind.hours[at];
            return Math.max(0, Math.max(wind.nearestNumberBefore(own), wind.nearestNumberAfter(own)));
        }

        int rainAt(int hour) {
            int at = rain.standingAt(hour);
            return at == NONE ? 0 : rain.numbers[at];
        }

        void copyFrom(Sky other) {
            System.arraycopy(other.tides, 0, tides, 0, TIDES);
            System.arraycopy(other.stormFrom, 0, stormFrom, 0, MOST_STORMS);
            System.arraycopy(other.stormTo, 0, stormTo, 0, MOST_STORMS);
            System.arraycopy(other.stormMore, 0, stormMore, 0, MOST_STORMS);
            wind.copyFrom(other.wind);
            rain.copyFrom(other.rain);
            storms = other.storms;
        }
    }

    /** The SQUARES with their WATER and SALT, and what is counted of water. */
    private static final class Ground {
        private static final int SEA_SALT = 30;

        private final boolean[] isLand = new boolean[SQUARES];
        private final int[] height = new int[SQUARES];
        private final int[] soil = new int[SQUARES];
        private final int[] ditch = new int[SQUARES];
        private final int[] water = new int[SQUARES];
        private final int[] salt = new int[SQUARES];
        private final int[] dry = new int[SQUARES];
        private final int[] wet = new int[SQUARES];
        // What the ditches give in one hour: all of it is reckoned ahead of any of it being moved.
        private final int[] ditchTo = new int[SQUARES];
        private final int[] ditchWater = new int[SQUARES];
        private final int[] ditchSalt = new int[SQUARES];
        private int rained;
        private int cameIn;
        private int wentOut;
        private int toldMore;

        void tellLand(int square, int newHeight, int newSoil, int newDitch) {
            isLand[square] = true;
            height[square] = newHeight;
            soil[square] = newSoil;
            ditch[square] = newDitch;
            tellWater(square, 0, 0);
        }

        void tellWater(int square, int newWater, int newSalt) {
            toldMore += newWater - water[square];
            water[square] = newWater;
            salt[square] = newSalt;
        }

        int levelOf(int square) {
            return height[square] + water[square];
        }

        void rainOnLand(int rain) {
            for (int square = 0; square < SQUARES; square++) {
                if (isLand[square]) {
                    water[square] += rain;
                    rained += rain;
                }
            }
        }

        void takeFromSea(int square, int n) {
            water[square] += n;
            salt[square] += SEA_SALT * n;
            cameIn += n;
        }

        int saltGoingWith(int square, int n) {
            int parts = water[square] + 10;
            return parts <= 0 ? 0 : (int) ((long) salt[square] * n / parts);
        }

        void giveToSea(int square, int n) {
            salt[square] -= saltGoingWith(square, n);
            water[square] -= n;
            wentOut += n;
        }

        void giveTo(int square, int to, int n) {
            if (!isLand[to]) {
                giveToSea(square, n);
                return;
            }
            int taken = saltGoingWith(square, n);
            salt[square] -= taken;
            water[square] -= n;
            salt[to] += taken;
            water[to] += n;
        }

        void runDitches() {
            for (int square = 0; square < SQUARES; square++) {
                reckonDitch(square);
            }
            for (int square = 0; square < SQUARES; square++) {
                int to = ditchTo[square];
                if (to != NONE) {
                    water[square] -= ditchWater[square];
                    salt[square] -= ditchSalt[square];
                    water[to] += ditchWater[square];
                    salt[to] += ditchSalt[square];
                }
            }
        }

        private void reckonDitch(int square) {
            int to = ditch[square] > 0 ? lowestDitchBeside(square) : NONE;
            ditchTo[square] = to;
            if (to != NONE) {
                int half = (levelOf(square) - levelOf(to)) / 2;
                int most = Math.min(Math.min(ditch[square], ditch[to]), water[square]);
                ditchWater[square] = Math.min(half, most);
                ditchSalt[square] = saltGoingWith(square, ditchWater[square]);
            }
        }

        // Asked in the order of their numbers, so that of several alike the least number stays.
        private int lowestDitchBeside(int square) {
            int x = square % WIDE;
            int to = lowerDitch(square, square, square - WIDE);
            to = x > 0 ? lowerDitch(square, to, square - 1) : to;
            to = x < WIDE - 1 ? lowerDitch(square, to, square + 1) : to;
            to = lowerDitch(square, to, square + WIDE);
            return to == square ? NONE : to;
        }

        private int lowerDitch(int square, int sofar, int other) {
            if (other < 0 || other >= SQUARES || ditch[other] == 0) {
                return sofar;
            }
            return levelOf(other) < levelOf(sofar) ? other : sofar;
        }

        void endDay() {
            for (int square = 0; square < SQUARES; square++) {
                if (isLand[square] && water[square] > 0) {
                    dry[square] = 0;
                    wet[square]++;
                } else if (isLand[square]) {
                    dry[square]++;
                    height[square] -= sinksNow(square) ? 1 : 0;
                    salt[square] -= salt[square] / 100;
                }
            }
        }

        private boolean sinksNow(int square) {
            if (soil[square] == PEAT) {
                return dry[square] % 3 == 0;
            }
            return soil[square] == CLAY && dry[square] % 10 == 0;
        }

        int allWater() {
            int all = 0;
            for (int square = 0; square < SQUARES; square++) {
                all += water[square];
            }
            return all;
        }

        int allSalt() {
            int all = 0;
            for (int square = 0; square < SQUARES; square++) {
                all += salt[square];
            }
            return all;
        }

        void copyFrom(Ground other) {
            System.arraycopy(other.isLand, 0, isLand, 0, SQUARES);
            System.arraycopy(other.height, 0, height, 0, SQUARES);
            System.arraycopy(other.soil, 0, soil, 0, SQUARES);
            System.arraycopy(other.ditch, 0, ditch, 0, SQUARES);
            System.arraycopy(other.water, 0, water, 0, SQUARES);
            System.arraycopy(other.salt, 0, salt, 0, SQUARES);
            System.arraycopy(other.dry, 0, dry, 0, SQUARES);
            System.arraycopy(other.wet, 0, wet, 0, SQUARES);
            rained = other.rained;
            cameIn = other.cameIn;
            wentOut = other.wentOut;
            toldMore = other.toldMore;
        }
    }

    /** One WORK of any kind. */
    private static final class Work {
        private static final int FIRST_WIDTH = 4;
        private static final int MOST_WIDTH = 60;

        private final int[] thick = new int[MOST_LAYERS];
        private final int[] clay = new int[MOST_LAYERS];
        private int kind;
        private int square;
        // Where its water goes: of a DIKE or BREACH the LAND SQUARE behind it.
        private int to;
        // LIMIT of a DIKE, POWER of a MILL, GATE of a SLUICE.
        private int size;
        private int width;
        private int layers;
        private int coal;
        private boolean on;
        private int latest;
        private int total;

        void begin(int newKind, int newSquare, int newTo, int newSize) {
            kind = newKind;
            square = newSquare;
            to = newTo;
            size = newSize;
            width = 0;
            layers = 0;
            coal = 0;
            on = false;
            latest = 0;
            total = 0;
        }

        boolean isBank() {
            return kind == DIKE || kind == BREACH;
        }

        boolean takesLayer() {
            return kind == DIKE && layers < MOST_LAYERS;
        }

        void addLayer(int newThick, int newClay) {
            thick[layers] = newThick;
            clay[layers] = newClay;
            layers++;
        }

        int thickness() {
            int sum = 0;
            for (int i = 0; i < layers; i++) {
                sum += thick[i];
            }
            return sum;
        }

        int leakBelow(int foot, int outside) {
            int sum = 0;
            int underside = foot;
            for (int i = 0; i < layers; i++) {
                if (underside < outside) {
                    sum += 10 - clay[i];
                }
                underside += thick[i];
            }
            return sum;
        }

        void breakOpen() {
            kind = BREACH;
            width = FIRST_WIDTH;
        }

        void widen() {
            width = wider(width);
        }

        static int wider(int width) {
            return Math.min(MOST_WIDTH, width + 2);
        }

        void moved(int n) {
            latest = n;
            total += n;
        }

        void copyFrom(Work other) {
            System.arraycopy(other.thick, 0, thick, 0, MOST_LAYERS);
            System.arraycopy(other.clay, 0, clay, 0, MOST_LAYERS);
            kind = other.kind;
            square = other.square;
            to = other.to;
            size = other.size;
            width = other.width;
            layers = other.layers;
            coal = other.coal;
            on = other.on;
            latest = other.latest;
            total = other.total;
        }
    }

    /** All that AN HOUR changes, and all that THE IMAGE holds. */
    private static final class Lake {
        private final Sky sky = new Sky();
        private final Ground ground = new Ground();
        private final Work[] works = new Work[MOST_WORKS];
        private int built;
        private int hour;

        Lake() {
            for (int i = 0; i < MOST_WORKS; i++) {
                works[i] = new Work();
            }
        }

        int dayNow() {
            return hour / DAY_HOURS;
        }

        int levelNow(int square) {
            return ground.isLand[square] ? ground.levelOf(square) : sky.outsideAt(hour);
        }

        int workOn(int square) {
            for (int i = 0; i < built; i++) {
                if (works[i].square == square) {
                    return i;
                }
            }
            return NONE;
        }

        boolean isFreeLand(int square) {
            return ground.isLand[square] && workOn(square) == NONE;
        }

        boolean isSeaBeside(int square, int sea) {
            return !ground.isLand[sea] && stepsApart(square, sea) == 1;
        }

        int build(int kind, int square, int to, int size) {
            works[built].begin(kind, square, to, size);
            built++;
            return built - 1;
        }

        int breaches() {
            int sum = 0;
            for (int i = 0; i < built; i++) {
                sum += works[i].kind == BREACH ? 1 : 0;
            }
            return sum;
        }

        int stepsToBank(int square) {
            int least = FAR;
            for (int i = 0; i < built; i++) {
                if (works[i].isBank()) {
                    least = Math.min(least, stepsApart(square, works[i].square));
                }
            }
            return least;
        }

        int crestOf(Work dike) {
            return ground.height[dike.square] + dike.thickness();
        }

        int sizeOf(Work work) {
            if (work.kind == DIKE) {
                return crestOf(work);
            }
            return work.kind == BREACH ? work.width : work.size;
        }

        int seepOf(Work dike, int outside) {
            int foot = ground.height[dike.square];
            int head = outside - Math.max(ground.levelOf(dike.to), foot);
            return head <= 0 ? 0 : head * dike.leakBelow(foot, outside) / 100;
        }

        void passHour() {
            hour++;
            int outside = sky.outsideAt(hour);
            ground.rainOnLand(sky.rainAt(hour));
            for (int i = 0; i < built; i++) {
                if (works[i].isBank()) {
                    runBank(works[i], outside);
                }
            }
            for (int i = 0; i < built; i++) {
                if (works[i].kind == SLUICE) {
                    runSluice(works[i], outside);
                }
            }
            ground.runDitches();
            runMills(sky.windAt(hour));
            if (hour % DAY_HOURS == 0) {
                ground.endDay();
            }
        }

        private void runBank(Work bank, int outside) {
            if (bank.kind == BREACH) {
                bank.widen();
            } else {
                int seeping = seepOf(bank, outside);
                if (seeping <= bank.size && outside <= crestOf(bank)) {
                    ground.takeFromSea(bank.to, seeping);
                    bank.moved(seeping);
                    return;
                }
                bank.breakOpen();
            }
            runBreach(bank, outside);
        }

        private void runBreach(Work breach, int outside) {
            int run = (int) ((long) (outside - ground.levelOf(breach.to)) * breach.width / 120);
            if (run >= 0) {
                ground.takeFromSea(breach.to, run);
            } else {
                run = -Math.min(-run, ground.water[breach.to]);
                ground.giveToSea(breach.to, -run);
            }
            breach.moved(run);
        }

        private void runSluice(Work sluice, int outside) {
            int over = ground.levelOf(sluice.square) - outside;
            int out = 0;
            if (sluice.on && over > 0) {
                out = Math.min(over / 4, Math.min(ground.water[sluice.square], sluice.size));
                ground.giveToSea(sluice.square, out);
            }
            sluice.moved(out);
        }

        private void runMills(int wind) {
            for (int i = 0; i < built; i++) {
                if (works[i].kind == MILL) {
                    liftBy(works[i], works[i].size * wind / 10);
                } else if (works[i].kind == ENGINE) {
                    runEngine(works[i]);
                }
            }
        }

        private void runEngine(Work engine) {
            boolean runs = engine.on && engine.coal > 0;
            engine.coal -= runs ? 1 : 0;
            liftBy(engine, runs ? engine.size : 0);
        }

        private void liftBy(Work mill, int could) {
            int lifted = Math.min(could, ground.water[mill.square]);
            ground.giveTo(mill.square, mill.to, lifted);
            mill.moved(lifted);
        }

        int allMillsLift(int atHour) {
            int wind = sky.windAt(atHour);
            int sum = 0;
            for (int i = 0; i < built; i++) {
                sum += works[i].kind == MILL ? works[i].size * wind / 10 : 0;
            }
            return sum;
        }

        void copyFrom(Lake other) {
            sky.copyFrom(other.sky);
            ground.copyFrom(other.ground);
            for (int i = 0; i < other.built; i++) {
                works[i].copyFrom(other.works[i]);
            }
            built = other.built;
            hour = other.hour;
        }
    }

    /** The ROWS, each number twice: as it is shown, which may be torn, and as the hours brought it. */
    private static final class Rows {
        private final int[] shown = new int[MOST_ROWS * SQUARES];
        private final int[] proof = new int[MOST_ROWS * SQUARES];
        private int kept;
        private int oldest;

        void forget() {
            kept = 0;
            oldest = 0;
        }

        int placeOf(int i, int square) {
            return (oldest + i) % MOST_ROWS * SQUARES + square;
        }

        void write(Lake lake) {
            if (kept == MOST_ROWS) {
                oldest = (oldest + 1) % MOST_ROWS;
            } else {
                kept++;
            }
            int outside = lake.sky.outsideAt(lake.hour);
            for (int square = 0; square < SQUARES; square++) {
                int place = placeOf(kept - 1, square);
                proof[place] = lake.ground.isLand[square] ? lake.ground.levelOf(square) : outside;
                shown[place] = proof[place];
            }
        }

        int firstTorn() {
            for (int i = 0; i < kept * SQUARES; i++) {
                int place = placeOf(i / SQUARES, i % SQUARES);
                if (shown[place] != proof[place]) {
                    return i;
                }
            }
            return NONE;
        }
    }

    /** A LAW: it reads its text into lines, whose conditions stand behind one another as steps on a stack. */
    private static final class Law {
        static final int DUES = 0;
        static final int GAIN = 1;
        static final int VOTES = 2;
        static final int FINE = 3;
        static final int MARK = 4;
        static final int CALL = 5;
        static final int OUT = 6;
        private static final int LEVEL = 7;
        static final int PASS = 8;
        static final int BAR = 9;

        // The things a text is made of. The facts stand ahead of these, by their places among FACTS;
        // facts, numbers and all from ADD to OR are steps of a condition, too.
        private static final int FACTS = 10;
        private static final int ADD = 10;
        private static final int LESS = 11;
        private static final int MORE = 12;
        private static final int NOT = 13;
        private static final int AND = 14;
        private static final int OR = 15;
        private static final int OPEN = 16;
        private static final int SHUT = 17;
        private static final int NEXT = 18;
        private static final int IF = 19;
        private static final int IN = 20;
        private static final int END = 21;
        private static final int WRONG = 22;
        // A line's first word is this and its kind; gain, which is a fact as well, is told by the fact.
        private static final int LINE = 30;
        private static final int GAIN_FACT = 1;
        private static final int NUMBER = 40;

        private static final int DEEPEST = 6;
        private static final int MOST_DIGITS = 5;
        private static final int MOST_NUMBER = 99999;
        // Each ( keeps one side of an or and one of an and waiting; three numbers wait inside a sum.
        private static final int STACK = 2 * DEEPEST + 8;

        private final int[] things = new int[MOST_TAPE + 1];
        private final int[] begins = new int[MOST_TAPE + 1];
        private final int[] kinds = new int[MOST_LINES];
        private final int[] firsts = new int[MOST_LINES];
        private final int[] seconds = new int[MOST_LINES];
        private final int[] froms = new int[MOST_LINES];
        private final int[] tos = new int[MOST_LINES];
        private final int[] stepFrom = new int[MOST_LINES];
        private final int[] stepTo = new int[MOST_LINES];
        private final int[] steps = new int[MOST_TAPE];
        private final long[] stack = new long[STACK];
        private int lines;
        private int stepped;
        // The thing that comes next; the first wrong one when a reading method answers false.
        private int at;

        /** The first wrong byte, or NONE. */
        int read(int[] text, int length) {
            scan(text, Math.min(length, MOST_TAPE));
            at = 0;
            lines = 0;
            stepped = 0;
            boolean more = things[0] != END;
            while (more && lines < MOST_LINES) {
                if (!readLine()) {
                    return begins[at];
                }
                lines++;
                more = take(NEXT);
            }
            return more || things[at] != END ? begins[at] : NONE;
        }

        private void scan(int[] text, int length) {
            int n = 0;
            int end = 0;
            for (int i = 0; i < length; i++) {
                if (i >= end && text[i] != ' ') {
                    end = thingEnd(text, i, length);
                    things[n] = thingAt(text, i, end);
                    begins[n] = i;
                    n++;
                }
            }
            things[n] = END;
            begins[n] = length;
        }

        private static boolean isLetter(int sign) {
            return 'a' <= sign && sign <= 'z';
        }

        private static boolean isDigit(int sign) {
            return '0' <= sign && sign <= '9';
        }

        private static int thingEnd(int[] text, int from, int length) {
            boolean word = isLetter(text[from]);
            boolean number = isDigit(text[from]);
            int end = from + 1;
            while (end < length && (word && isLetter(text[end]) || number && isDigit(text[end]))) {
                end++;
            }
            return end;
        }

        private static int thingAt(int[] text, int from, int end) {
            if (isLetter(text[from])) {
                return wordThing(text, from, end);
            }
            return isDigit(text[from]) ? numberThing(text, from, end) : signThing(text[from]);
        }

        private static int numberThing(int[] text, int from, int end) {
            if (end - from > MOST_DIGITS) {
                return WRONG;
            }
            int number = 0;
            for (int i = from; i < end; i++) {
                number = number * 10 + text[i] - '0';
            }
            return NUMBER + number;
        }

        private static int signThing(int sign) {
            switch (sign) {
                case '+':
                    return ADD;
                case '<':
                    return LESS;
                case '>':
                    return MORE;
                case '(':
                    return OPEN;
                case ')':
                    return SHUT;
                case ';':
                    return NEXT;
                default:
                    return WRONG;
            }
        }

        private static int wordThing(int[] text, int from, int end) {
            int thing = factThing(text, from, end);
            if (thing == NONE) {
                thing = lineThing(text, from, end);
            }
            if (thing == NONE) {
                thing = wordIs("if", text, from, end) ? IF : wordIs("in", text, from, end) ? IN
                        : wordIs("not", text, from, end) ? NOT : wordIs("and", text, from, end) ? AND
                        : wordIs("or", text, from, end) ? OR : WRONG;
            }
            return thing;
        }

        private static int factThing(int[] text, int from, int end) {
            return wordIs("acres", text, from, end) ? 0 : wordIs("gain", text, from, end) ? GAIN_FACT
                    : wordIs("age", text, from, end) ? 2 : wordIs("sons", text, from, end) ? 3
                    : wordIs("coin", text, from, end) ? 4 : wordIs("cattle", text, from, end) ? 5
                    : wordIs("kin", text, from, end) ? 6 : wordIs("board", text, from, end) ? 7
                    : wordIs("near", text, from, end) ? 8 : wordIs("owes", text, from, end) ? 9 : NONE;
        }

        private static int lineThing(int[] text, int from, int end) {
            int kind = wordIs("dues", text, from, end) ? DUES : wordIs("votes", text, from, end) ? VOTES
                    : wordIs("fine", text, from, end) ? FINE : wordIs("mark", text, from, end) ? MARK
                    : wordIs("call", text, from, end) ? CALL : wordIs("out", text, from, end) ? OUT
                    : wordIs("level", text, from, end) ? LEVEL : wordIs("pass", text, from, end) ? PASS
                    : wordIs("bar", text, from, end) ? BAR : NONE;
            return kind == NONE ? NONE : LINE + kind;
        }

        private static boolean wordIs(String word, int[] text, int from, int end) {
            if (end - from != word.length()) {
                return false;
            }
            for (int i = 0; i < word.length(); i++) {
                if (text[from + i] != word.charAt(i)) {
                    return false;
                }
            }
            return true;
        }

        // The last thing is END, which is never taken, so that there is always a next one.
        private boolean take(int thing) {
            if (things[at] != thing) {
                return false;
            }
            at++;
            return true;
        }

        private boolean takeNumber(int most, int[] into) {
            int number = things[at] - NUMBER;
            if (number < 0 || number > most) {
                return false;
            }
            into[lines] = number;
            at++;
            return true;
        }

        private static int lineKind(int thing) {
            if (thing == GAIN_FACT) {
                return GAIN;
            }
            return LINE <= thing && thing <= LINE + BAR ? thing - LINE : NONE;
        }

        private boolean readLine() {
            int kind = lineKind(things[at]);
            if (kind == NONE) {
                return false;
            }
            at++;
            kinds[lines] = kind;
            stepFrom[lines] = stepped;
            switch (kind) {
                case LEVEL:
                    return takeNumber(900, firsts) && takeNumber(900, seconds) && take(IN)
                            && takeNumber(SQUARES - 1, froms) && takeNumber(SQUARES - 1, tos);
                case PASS:
                    return takeNumber(100, firsts);
                case BAR:
                    return takeNumber(18, firsts);
                case CALL:
                case OUT:
                    break;
                default:
                    if (!takeNumber(MOST_NUMBER, firsts)) {
                        return false;
                    }
            }
            boolean right = !take(IF) || readAny(0);
            stepTo[lines] = stepped;
            return right;
        }

        private boolean readAny(int depth) {
            boolean right = readAll(depth);
            for (int n = 0; n < MOST_TAPE && right && take(OR); n++) {
                right = readAll(depth);
                addStep(OR);
            }
            return right;
        }

        private boolean readAll(int depth) {
            boolean right = readAtom(depth);
            for (int n = 0; n < MOST_TAPE && right && take(AND); n++) {
                right = readAtom(depth);
                addStep(AND);
            }
            return right;
        }

        private boolean readAtom(int depth) {
            boolean not = things[at] == NOT;
            if (!not && things[at] != OPEN) {
                return readComparison();
            }
            if (depth >= DEEPEST) {
                return false;
            }
            at++;
            if (not) {
                boolean right = readAtom(depth + 1);
                addStep(NOT);
                return right;
            }
            return readAny(depth + 1) && take(SHUT);
        }

        private boolean readComparison() {
            if (!readSum()) {
                return false;
            }
            int step = things[at];
            if (step != LESS && step != MORE) {
                return false;
            }
            at++;
            boolean right = readSum();
            addStep(step);
            return right;
        }

        private boolean readSum() {
            boolean right = readPart();
            for (int n = 0; n < MOST_TAPE && right && take(ADD); n++) {
                right = readPart();
                addStep(ADD);
            }
            return right;
        }

        private boolean readPart() {
            int part = things[at];
            if (part >= FACTS && part < NUMBER) {
                return false;
            }
            addStep(part);
            at++;
            return true;
        }

        private void addStep(int step) {
            if (stepped < MOST_TAPE) {
                steps[stepped] = step;
                stepped++;
            }
        }

        private boolean lineHolds(int line, long[] facts) {
            int top = 0;
            for (int i = stepFrom[line]; i < stepTo[line]; i++) {
                int step = steps[i];
                if (step == NOT && top > 0) {
                    stack[top - 1] = 1 - stack[top - 1];
                } else if (step >= ADD && step <= OR && top > 1) {
                    top--;
                    stack[top - 1] = joined(step, stack[top - 1], stack[top]);
                } else if (top < STACK && (step < FACTS || step >= NUMBER)) {
                    stack[top] = step >= NUMBER ? step - NUMBER : facts[step];
                    top++;
                }
            }
            return top == 0 || stack[0] != 0;
        }

        private static long joined(int step, long one, long other) {
            switch (step) {
                case ADD:
                    return one + other;
                case LESS:
                    return one < other ? 1 : 0;
                case MORE:
                    return one > other ? 1 : 0;
                case AND:
                    return one * other;
                default:
                    return Math.max(one, other);
            }
        }

        long sumThatHolds(int kind, long[] facts) {
            long sum = 0;
            for (int line = 0; line < lines; line++) {
                if (kinds[line] == kind && lineHolds(line, facts)) {
                    sum += firsts[line];
                }
            }
            return sum;
        }

        int firstThatHolds(int kind, long[] facts) {
            for (int line = 0; line < lines; line++) {
                if (kinds[line] == kind && lineHolds(line, facts)) {
                    return line;
                }
            }
            return NONE;
        }

        int lastOf(int kind, int without) {
            int number = without;
            for (int line = 0; line < lines; line++) {
                number = kinds[line] == kind ? firsts[line] : number;
            }
            return number;
        }

        int levelFor(int square, boolean summer) {
            int level = NO_LEVEL;
            for (int line = 0; line < lines; line++) {
                if (kinds[line] == LEVEL && inRectangle(square, froms[line], tos[line])) {
                    level = summer ? -firsts[line] : -seconds[line];
                }
            }
            return level;
        }
    }

    /** A SETTLER; a HOLDER if it has a FARM. */
    private static final class Settler {
        private final int age;
        private final int sons;
        private final int cattle;
        private final boolean kin;
        private final boolean board;
        private final int drawn;
        private int coin;
        private int farm = NONE;
        private int gain;
        private int owes;
        private boolean came;
        private boolean said;

        Settler(int age, int sons, int coin, int cattle, boolean kin, boolean board, int drawn) {
            this.age = age;
            this.sons = sons;
            this.coin = coin;
            this.cattle = cattle;
            this.kin = kin;
            this.board = board;
            this.drawn = drawn;
        }
    }

    /** The board: the LAW in force and the VOTE on another one, SETTLERS, FARMS and the COIN. */
    private static final class Board {
        private static final int GRASS = 1;
        private static final int BARLEY = 2;

        private final Settler[] settlers = new Settler[MOST_SETTLERS];
        private final int[] farmOf = new int[SQUARES];
        private final int[] crops = new int[MOST_FARMS];
        private final boolean[] held = new boolean[MOST_FARMS];
        private final boolean[] harvested = new boolean[YEARS];
        private final long[] facts = new long[Law.FACTS];
        // For choosing alone: NONE stands for one that cannot be chosen (any more).
        private final int[] marks = new int[MOST_SETTLERS];
        // Three laws change places, so that a wrong text, which is read into the spare one, spoils none that stands.
        private Law force = new Law();
        private Law proposed = new Law();
        private Law spare = new Law();
        private int fault = NONE;
        private boolean voting;
        private long yesVotes;
        private long allVotes;
        private int settled;
        private int holding;
        private int farms;
        private int coin;

        Board() {
            Arrays.fill(farmOf, NONE);
        }

        int foundSpare() {
            Law other = force;
            force = spare;
            spare = other;
            return force.lines;
        }

        int proposeSpare() {
            Law other = proposed;
            proposed = spare;
            spare = other;
            voting = true;
            yesVotes = 0;
            allVotes = 0;
            for (int i = 0; i < settled; i++) {
                settlers[i].said = false;
            }
            return proposed.lines;
        }

        int hear(Settler one, boolean yes, Lake lake) {
            if (one.farm == NONE || one.said) {
                return NONE;
            }
            gatherFacts(one, lake);
            int votes = ruled(Law.VOTES);
            one.said = true;
            allVotes += votes;
            yesVotes += yes ? votes : 0;
            return votes;
        }

        boolean closeVote() {
            boolean passes = yesVotes * 100 > allVotes * force.lastOf(Law.PASS, 50);
            voting = false;
            if (passes) {
                Law other = force;
                force = proposed;
                proposed = other;
            }
            return passes;
        }

        void gatherFacts(Settler one, Lake lake) {
            facts[0] = acresOf(one);
            facts[1] = one.gain;
            facts[2] = one.age;
            facts[3] = one.sons;
            facts[4] = one.coin;
            facts[5] = one.cattle;
            facts[6] = one.kin ? 1 : 0;
            facts[7] = one.board ? 1 : 0;
            facts[8] = nearOf(one, lake);
            facts[9] = one.owes;
        }

        int ruled(int kind) {
            return (int) force.sumThatHolds(kind, facts);
        }

        boolean isRuled(int kind) {
            return force.firstThatHolds(kind, facts) != NONE;
        }

        int duesAndGain() {
            long part = force.sumThatHolds(Law.GAIN, facts) * facts[1] / 100;
            return (int) (force.sumThatHolds(Law.DUES, facts) + part);
        }

        boolean buildingAllowed(int square, Lake lake) {
            return lake.stepsToBank(square) >= force.lastOf(Law.BAR, 0);
        }

        int settle(Settler one) {
            settlers[settled] = one;
            settled++;
            return settled - 1;
        }

        boolean farmMayBe(int from, int to, Ground ground) {
            boolean free = farms < MOST_FARMS;
            for (int square = 0; square < SQUARES && free; square++) {
                if (inRectangle(square, from, to)) {
                    free = ground.isLand[square] && farmOf[square] == NONE;
                }
            }
            return free;
        }

        int layOut(int from, int to) {
            for (int square = 0; square < SQUARES; square++) {
                if (inRectangle(square, from, to)) {
                    farmOf[square] = farms;
                }
            }
            farms++;
            return farms - 1;
        }

        int worthOf(int farm, Ground ground) {
            int sum = 0;
            for (int square = 0; square < SQUARES; square++) {
                if (farmOf[square] == farm) {
                    int soil = ground.soil[square];
                    int full = soil == SAND ? 100 : soil == CLAY ? 150 : 60;
                    sum += Math.max(0, full - ground.salt[square] / 100);
                }
            }
            return sum;
        }

        int acresOf(Settler one) {
            int sum = 0;
            for (int square = 0; square < SQUARES && one.farm != NONE; square++) {
                sum += farmOf[square] == one.farm ? 1 : 0;
            }
            return sum;
        }

        int nearOf(Settler one, Lake lake) {
            int near = FAR;
            for (int square = 0; square < SQUARES && one.farm != NONE; square++) {
                if (farmOf[square] == one.farm) {
                    near = Math.min(near, lake.stepsToBank(square));
                }
            }
            return near;
        }

        int giveFarms(int n, Lake lake) {
            for (int i = 0; i < settled; i++) {
                gatherFacts(settlers[i], lake);
                boolean can = settlers[i].farm == NONE && !isRuled(Law.OUT);
                marks[i] = can ? ruled(Law.MARK) : NONE;
            }
            int given = 0;
            for (int i = 0; i < n; i++) {
                int next = firstByMark();
                int farm = bestFreeFarm(lake.ground);
                if (next == NONE || farm == NONE) {
                    break;
                }
                marks[next] = NONE;
                settlers[next].farm = farm;
                held[farm] = true;
                given++;
            }
            holding += given;
            return given;
        }

        private int firstByMark() {
            int first = NONE;
            for (int i = 0; i < settled; i++) {
                if (marks[i] != NONE && (first == NONE || marks[i] > marks[first]
                        || marks[i] == marks[first] && settlers[i].drawn < settlers[first].drawn)) {
                    first = i;
                }
            }
            return first;
        }

        private int bestFreeFarm(Ground ground) {
            int best = NONE;
            int most = NONE;
            for (int farm = 0; farm < farms; farm++) {
                int worth = held[farm] ? NONE : worthOf(farm, ground);
                if (worth > most) {
                    most = worth;
                    best = farm;
                }
            }
            return best;
        }

        int reap(Lake lake) {
            int year = Math.min(lake.dayNow() / YEAR_DAYS, YEARS - 1);
            if (harvested[year]) {
                return NONE;
            }
            harvested[year] = true;
            int sum = 0;
            for (int i = 0; i < settled; i++) {
                if (settlers[i].farm != NONE) {
                    sum += reapFor(settlers[i], lake.ground);
                    payDues(settlers[i], lake);
                }
                settlers[i].came = false;
            }
            Arrays.fill(lake.ground.wet, 0);
            return sum;
        }

        private int reapFor(Settler one, Ground ground) {
            int brought = 0;
            for (int square = 0; square < SQUARES; square++) {
                if (farmOf[square] == one.farm) {
                    brought += broughtBy(crops[one.farm], ground.wet[square], ground.salt[square]);
                }
            }
            one.gain = brought;
            one.coin += brought;
            return brought;
        }

        private static int broughtBy(int crop, int wet, int salt) {
            if (crop == 0) {
                return 0;
            }
            int full = crop == GRASS ? 20 : crop == BARLEY ? 50 : 40;
            boolean wetBorne = wet <= (crop == GRASS ? 60 : crop == BARLEY ? 20 : 10);
            boolean saltBorne = salt <= (crop == GRASS ? 4000 : crop == BARLEY ? 2000 : 8000);
            if (wetBorne && saltBorne) {
                return full;
            }
            return wetBorne || saltBorne ? full / 2 : 0;
        }

        // All is reckoned by the arrears of before: what is owed now is arrears only once it is not paid.
        private void payDues(Settler one, Lake lake) {
            gatherFacts(one, lake);
            int due = duesAndGain();
            if (!one.came && isRuled(Law.CALL)) {
                due += ruled(Law.FINE);
            }
            one.owes += due;
            int paid = Math.min(one.owes, one.coin);
            one.owes -= paid;
            one.coin -= paid;
            coin = Math.min(MOST_COIN - paid, coin) + paid;
        }

        int debtorOfRank(int n) {
            for (int i = 0; i < settled; i++) {
                if (settlers[i].owes > 0 && debtorsAheadOf(i) == n) {
                    return i;
                }
            }
            return NONE;
        }

        private int debtorsAheadOf(int i) {
            int ahead = 0;
            for (int j = 0; j < settled; j++) {
                int more = settlers[j].owes - settlers[i].owes;
                ahead += more > 0 || more == 0 && j < i ? 1 : 0;
            }
            return ahead;
        }

        int allArrears() {
            int sum = 0;
            for (int i = 0; i < settled; i++) {
                sum += settlers[i].owes;
            }
            return sum;
        }
    }

    /** A CONTRACT for a LAYER. */
    private static final class Contract {
        private final int work;
        private final int clay;
        private final int price;
        private final int bound;
        private boolean measured;
        private int least;
        private int most = Integer.MAX_VALUE;
        private boolean paid;

        Contract(int work, int clay, int price, int bound) {
            this.work = work;
            this.clay = clay;
            this.price = price;
            this.bound = bound;
        }

        void say(int yards) {
            measured = true;
            least = Math.max(least, yards - bound);
            most = Math.min(most, yards + bound);
        }

        boolean hasSpan() {
            return measured && least <= most;
        }
    }

    /** The PLANS, and the JOBS that one of them is of. */
    private static final class Plans {
        private static final int MOST_ENGINES = 5;
        private static final int MOST_COAL = 120;
        private static final int NO_WAY = Integer.MAX_VALUE;
        private static final int MOST_FIELDS = 6;
        private static final int LAST_YEAR = 200;

        private final int[] liftOf = new int[MOST_ENGINES + 1];
        private final int[] leastNow = new int[MOST_COAL + 1];
        private final int[] leastThen = new int[MOST_COAL + 1];
        private final int[] fields = new int[MOST_FIELDS];
        private final int[] fieldLevels = new int[MOST_FIELDS];
        private final int[] costs = new int[MOST_JOBS];
        private final int[] lasts = new int[MOST_JOBS];
        private final int[] incomes = new int[MOST_JOBS];
        private final int[] acres = new int[MOST_JOBS];
        private final boolean[] placed = new boolean[MOST_JOBS];
        private final int[] trial = new int[MOST_JOBS];
        private final int[] best = new int[MOST_JOBS];
        private int engines;
        private int fieldCount;
        private int bestSum;
        private int jobs;
        private int bestLate;

        // Less water is never worse later on, so of all ways that burn as much coal only the one
        // that leaves the least water counts, and k engines are always the k strongest.
        int leastCoal(Lake lake, int has, int comes, int n, int limit) {
            gatherEngines(lake);
            Arrays.fill(leastNow, NO_WAY);
            leastNow[0] = has;
            for (int i = 1; i <= n; i++) {
                passPlannedHour(comes, lake.allMillsLift(lake.hour + i), limit);
            }
            for (int coal = 0; coal <= MOST_COAL; coal++) {
                if (leastNow[coal] != NO_WAY) {
                    return coal;
                }
            }
            return NONE;
        }

        private void gatherEngines(Lake lake) {
            engines = 0;
            for (int i = 0; i < lake.built && engines < MOST_ENGINES; i++) {
                if (lake.works[i].kind == ENGINE) {
                    engines++;
                    int place = engines;
                    for (; place > 1 && liftOf[place - 1] < lake.works[i].size; place--) {
                        liftOf[place] = liftOf[place - 1];
                    }
                    liftOf[place] = lake.works[i].size;
                }
            }
            liftOf[0] = 0;
            for (int k = 1; k <= engines; k++) {
                liftOf[k] += liftOf[k - 1];
            }
        }

        private void passPlannedHour(int comes, int mills, int limit) {
            Arrays.fill(leastThen, NO_WAY);
            for (int coal = 0; coal <= MOST_COAL; coal++) {
                for (int k = 0; k <= engines && coal + k <= MOST_COAL && leastNow[coal] != NO_WAY; k++) {
                    int water = Math.max(0, leastNow[coal] + comes - mills - liftOf[k]);
                    if (water <= limit && water < leastThen[coal + k]) {
                        leastThen[coal + k] = water;
                    }
                }
            }
            System.arraycopy(leastThen, 0, leastNow, 0, MOST_COAL + 1);
        }

        // A later begin never leaves less width at any hour, so the earliest begin is the best one.
        int closingHour(Lake lake, int width, int hands, int low) {
            int open = width;
            for (int i = 1; i <= 200; i++) {
                int hour = lake.hour + i;
                open = lake.sky.outsideAt(hour) <= low ? open - hands / 4 : Work.wider(open);
                if (open <= 0) {
                    return hour;
                }
            }
            return NONE;
        }

        int bestLevels(Board board, int farm, Ground ground, int step) {
            fieldCount = 0;
            for (int square = 0; square < SQUARES && fieldCount < MOST_FIELDS; square++) {
                if (board.farmOf[square] == farm) {
                    fields[fieldCount] = square;
                    fieldCount++;
                }
            }
            bestSum = NONE;
            tryLevels(0, 0, board.crops[farm], ground, step);
            return bestSum;
        }

        private void tryLevels(int place, int sum, int crop, Ground ground, int step) {
            if (place >= fieldCount) {
                bestSum = Math.max(bestSum, sum);
                return;
            }
            for (int depth = 40; depth <= 160; depth += 40) {
                fieldLevels[place] = ground.height[fields[place]] - depth;
                if (agreesWithEarlier(place, step)) {
                    tryLevels(place + 1, sum + worthOfDepth(crop, depth), crop, ground, step);
                }
            }
        }

        private boolean agreesWithEarlier(int place, int step) {
            for (int i = 0; i < place; i++) {
                if (stepsApart(fields[i], fields[place]) == 1
                        && Math.abs(fieldLevels[i] - fieldLevels[place]) > step) {
                    return false;
                }
            }
            return true;
        }

        private static int worthOfDepth(int crop, int depth) {
            switch (crop) {
                case 1:
                    return Math.max(0, 20 - Math.abs(depth - 60) / 5);
                case 2:
                    return Math.max(0, 50 - Math.abs(depth - 120) / 2);
                case 3:
                    return Math.max(0, 40 - Math.abs(depth - 100) / 3);
                default:
                    return 0;
            }
        }

        int addJob(int cost, int years, int income, int newAcres) {
            costs[jobs] = cost;
            lasts[jobs] = years;
            incomes[jobs] = income;
            acres[jobs] = newAcres;
            jobs++;
            return jobs;
        }

        void findOrder(int coin) {
            bestLate = NONE;
            tryOrders(0, 0, coin, 0, 0);
        }

        // The orders are tried the least numbers first, so that of several alike the first stays;
        // LATENESS never gets less by a further JOB, so what is no better already is left.
        private void tryOrders(int place, int year, long coin, int income, int late) {
            if (bestLate != NONE && late >= bestLate) {
                return;
            }
            if (place >= jobs) {
                bestLate = late;
                System.arraycopy(trial, 0, best, 0, jobs);
                return;
            }
            for (int job = 0; job < jobs; job++) {
                int done = placed[job] ? NONE : yearWithCost(year, coin, income, costs[job]) + lasts[job];
                if (done != NONE && done <= LAST_YEAR) {
                    long left = coin + (long) income * (done - year) - costs[job];
                    placed[job] = true;
                    trial[place] = job;
                    tryOrders(place + 1, done, left, income + incomes[job], late + acres[job] * done);
                    placed[job] = false;
                }
            }
        }

        private static int yearWithCost(int year, long coin, int income, int cost) {
            if (coin >= cost) {
                return year;
            }
            if (income == 0) {
                return LAST_YEAR;
            }
            return year + (int) ((cost - coin + income - 1) / income);
        }
    }
}
