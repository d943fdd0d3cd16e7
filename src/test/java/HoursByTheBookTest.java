import java.util.ArrayList;
import java.util.List;
import java.util.Random;

/** Hours of any lakes against a second telling of the document's terms, as plain as they stand there. */
public final class HoursByTheBookTest {
    private static final int RUNS = 150;
    private static final Due due = new Due();

    public static void main(String[] args) {
        for (int run = 0; run < RUNS; run++) {
            compare(new Random(run), run);
        }
        due.end();
    }

    /** One square of land as the book has it. */
    private static final class Field {
        long height;
        int soil;
        int ditch;
        long water;
        long salt;
        int dry;
        int wet;

        long level() {
            return height + water;
        }

        /** Takes water off and answers the salt that goes with it. */
        long leave(long n) {
            long goes = Math.floorDiv(salt * n, water + 10);
            water -= n;
            salt -= goes;
            return goes;
        }
    }

    private static final class Building {
        int kind;
        int square;
        int to;
        int size;
        int width;
        long coal;
        boolean on;
        long latest;
        long total;
        final List<int[]> layers = new ArrayList<>();
    }

    private static final class Book {
        final Field[] fields = new Field[96];
        final List<Building> works = new ArrayList<>();
        final int[] tides = new int[12];
        final List<int[]> storms = new ArrayList<>();
        final List<int[]> winds = new ArrayList<>();
        final List<int[]> rains = new ArrayList<>();
        int hour;
        long rained;
        long in;
        long out;

        long outside(int at) {
            long level = tides[at % 12];
            for (int[] storm : storms) {
                level += at >= storm[0] && at <= storm[1] ? storm[2] : 0;
            }
            return level;
        }

        /** The latest telling of that very hour, or null. */
        static int[] tellingOf(List<int[]> tellings, int at) {
            for (int i = tellings.size() - 1; i >= 0; i--) {
                if (tellings.get(i)[0] == at) {
                    return tellings.get(i);
                }
            }
            return null;
        }

        static int[] standing(List<int[]> tellings, int at) {
            int[] found = null;
            for (int hour = at; hour >= 0 && found == null; hour--) {
                found = tellingOf(tellings, hour);
            }
            return found;
        }

        int rain(int at) {
            int[] told = standing(rains, at);
            return told == null ? 0 : told[1];
        }

        int wind(int at) {
            int[] told = standing(winds, at);
            if (told == null || told[1] >= 0) {
                return told == null ? 0 : told[1];
            }
            int greater = 0;
            for (int hour = told[0] - 1; hour >= 0; hour--) {
                int[] other = tellingOf(winds, hour);
                if (other != null && other[1] >= 0) {
                    greater = Math.max(greater, other[1]);
                    break;
                }
            }
            for (int hour = told[0] + 1; hour <= 2000; hour++) {
                int[] other = tellingOf(winds, hour);
                if (other != null && other[1] >= 0) {
                    greater = Math.max(greater, other[1]);
                    break;
                }
            }
            return greater;
        }

        void pass() {
            hour++;
            long outside = outside(hour);
            int rain = rain(hour);
            for (Field f : fields) {
                if (f != null) {
                    f.water += rain;
                    rained += rain;
                }
            }
            for (Building b : works) {
                if (b.kind <= 1) {
                    bank(b, outside);
                }
            }
            for (Building b : works) {
                if (b.kind == 4) {
                    sluice(b, outside);
                }
            }
            ditches();
            int wind = wind(hour);
            for (Building b : works) {
                if (b.kind == 2) {
                    lift(b, b.size * wind / 10);
                } else if (b.kind == 3) {
                    boolean burns = b.on && b.coal > 0;
                    lift(b, burns ? b.size : 0);
                    b.coal -= burns ? 1 : 0;
                }
            }
            if (hour % 24 == 0) {
                endOfDay();
            }
        }

        void bank(Building b, long outside) {
            Field land = fields[b.to];
            long foot = fields[b.square].height;
            if (b.kind == 0) {
                long head = Math.max(0, outside - Math.max(land.level(), foot));
                long parts = 0;
                long top = foot;
                for (int[] layer : b.layers) {
                    parts += top < outside ? 10 - layer[1] : 0;
                    top += layer[0];
                }
                long seep = head * parts / 100;
                if (seep > b.size || outside > top) {
                    b.kind = 1;
                    b.width = 4;
                } else {
                    comeIn(b, land, seep);
                    return;
                }
            } else {
                b.width = Math.min(60, b.width + 2);
            }
            long run = (outside - land.level()) * b.width / 120;
            if (run >= 0) {
                comeIn(b, land, run);
            } else {
                long goes = Math.min(-run, land.water);
                land.leave(goes);
                out += goes;
                b.latest = -goes;
                b.total -= goes;
            }
        }

        void comeIn(Building b, Field land, long n) {
            land.water += n;
            land.salt += 30 * n;
            in += n;
            b.latest = n;
            b.total += n;
        }

        void sluice(Building b, long outside) {
            Field land = fields[b.square];
            long goes = 0;
            if (b.on && outside < land.level()) {
                goes = Math.min(Math.min((land.level() - outside) / 4, land.water), b.size);
            }
            land.leave(goes);
            out += goes;
            b.latest = goes;
            b.total += goes;
        }

        void lift(Building b, long could) {
            Field land = fields[b.square];
            long goes = Math.min(could, land.water);
            long salt = land.leave(goes);
            if (fields[b.to] == null) {
                out += goes;
            } else {
                fields[b.to].water += goes;
                fields[b.to].salt += salt;
            }
            b.latest = goes;
            b.total += goes;
        }

        void ditches() {
            long[] level = new long[96];
            for (int s = 0; s < 96; s++) {
                level[s] = fields[s] == null ? 0 : fields[s].level();
            }
            List<long[]> gifts = new ArrayList<>();
            for (int s = 0; s < 96; s++) {
                if (fields[s] == null || fields[s].ditch == 0) {
                    continue;
                }
                int to = -1;
                for (int t = 0; t < 96; t++) {
                    boolean beside = Math.abs(s % 12 - t % 12) + Math.abs(s / 12 - t / 12) == 1;
                    if (beside && fields[t] != null && fields[t].ditch > 0 && (to < 0 || level[t] < level[to])) {
                        to = t;
                    }
                }
                if (to >= 0 && level[to] < level[s]) {
                    long goes = Math.min((level[s] - level[to]) / 2, Math.min(fields[s].ditch, fields[to].ditch));
                    gifts.add(new long[] {s, to, Math.min(goes, fields[s].water)});
                }
            }
            List<long[]> salts = new ArrayList<>();
            for (long[] gift : gifts) {
                salts.add(new long[] {gift[1], fields[(int) gift[0]].leave(gift[2])});
            }
            for (int i = 0; i < gifts.size(); i++) {
                Field to = fields[(int) gifts.get(i)[1]];
                to.water += gifts.get(i)[2];
                to.salt += salts.get(i)[1];
            }
        }

        void endOfDay() {
            for (Field f : fields) {
                if (f == null) {
                    continue;
                }
                f.dry = f.water == 0 ? f.dry + 1 : 0;
                f.wet += f.water > 0 ? 1 : 0;
                int by = f.soil == 2 ? 3 : f.soil == 1 ? 10 : 0;
                f.height -= by > 0 && f.dry > 0 && f.dry % by == 0 ? 1 : 0;
                f.salt -= f.water == 0 ? f.salt / 100 : 0;
            }
        }
    }

    private static void compare(Random random, int run) {
        SeaLand x = new SeaLand();
        Book book = new Book();
        int base = random.nextInt(300) - 250;
        for (int s = 0; s < 96; s++) {
            if (random.nextInt(100) < 60 + run % 40) {
                Field f = new Field();
                f.height = Math.min(300, base + random.nextInt(run % 5 == 0 ? 300 : 60));
                f.soil = random.nextInt(3);
                f.ditch = random.nextBoolean() ? 0 : random.nextInt(21);
                book.fields[s] = f;
                x.land(s, s, (int) f.height, f.soil, f.ditch);
            }
        }
        sky(x, book, random);
        build(x, book, random);
        for (int step = 0; step < 60; step++) {
            tell(x, book, random);
            int hours = random.nextInt(step % 10 == 0 ? 100 : 8);
            due.is("hour of run " + run, x.hours(hours), book.hour + hours);
            for (int i = 0; i < hours; i++) {
                book.pass();
            }
            look(x, book, run);
        }
    }

    private static void sky(SeaLand x, Book book, Random random) {
        for (int at = 0; at < 12; at++) {
            book.tides[at] = random.nextInt(121) - 60;
            x.tide(at, book.tides[at]);
        }
        for (int i = 0; i < 8; i++) {
            int from = random.nextInt(400);
            int[] storm = {from, from + random.nextInt(30), 1 + random.nextInt(120)};
            book.storms.add(storm);
            x.storm(storm[0], storm[1], storm[2]);
        }
    }

    private static void build(SeaLand x, Book book, Random random) {
        for (int i = 0; i < 400 && book.works.size() < 30; i++) {
            int s = random.nextInt(96);
            int a = s + new int[] {-12, -1, 1, 12}[random.nextInt(4)];
            int b = s + new int[] {-12, -1, 1, 12}[random.nextInt(4)];
            if (a < 0 || a > 95 || b < 0 || b > 95) {
                continue;
            }
            Building w = new Building();
            w.square = s;
            int way = random.nextInt(4);
            w.size = 1 + random.nextInt(way == 0 ? 100 : 60);
            w.kind = way == 0 ? 0 : way == 1 ? 2 : way == 2 ? 3 : 4;
            w.to = way == 0 ? b : a;
            int got = way == 0 ? x.dike(s, a, b, w.size) : way == 3 ? x.sluice(s, a, w.size) : x.mill(s, a, w.size, way == 2);
            if (got != SeaLand.NONE) {
                due.is("number", got, book.works.size());
                book.works.add(w);
            }
        }
    }

    private static void tell(SeaLand x, Book book, Random random) {
        int hour = random.nextInt(600);
        if (random.nextInt(3) == 0 && book.winds.size() < 60) {
            int[] wind = {hour, random.nextInt(11) - 1};
            book.winds.add(wind);
            x.weather(false, wind[0], wind[1]);
        }
        if (random.nextInt(3) == 0 && book.rains.size() < 60) {
            int[] rain = {hour, random.nextInt(6) - 3};
            rain[1] = Math.max(0, rain[1]);
            book.rains.add(rain);
            x.weather(true, rain[0], rain[1]);
        }
        int s = random.nextInt(96);
        if (random.nextBoolean() && book.fields[s] != null) {
            book.fields[s].water = random.nextInt(300);
            book.fields[s].salt = random.nextInt(5000);
            x.fill(s, (int) book.fields[s].water, (int) book.fields[s].salt);
        }
        for (int i = 0; i < book.works.size(); i++) {
            Building w = book.works.get(i);
            if (w.kind == 0 && w.layers.size() < 6 && random.nextInt(6) == 0) {
                int[] layer = {1 + random.nextInt(80), random.nextInt(10)};
                w.layers.add(layer);
                due.is("layer", x.layer(i, layer[0], layer[1]), w.layers.size());
            } else if (w.kind == 1 && random.nextInt(10) == 0) {
                w.kind = 0;
                x.shut(i);
            } else if (w.kind >= 3 && random.nextInt(4) == 0) {
                w.on = random.nextInt(3) > 0;
                x.turn(i, w.on);
            }
            if (w.kind == 3 && random.nextInt(5) == 0) {
                int coal = random.nextInt(30);
                w.coal += coal;
                due.is("coal", x.coal(i, coal), w.coal);
            }
        }
    }

    private static void look(SeaLand x, Book book, int run) {
        String of = " in run " + run + " at hour " + book.hour;
        for (int s = 0; s < 96; s++) {
            Field f = book.fields[s];
            if (f != null) {
                long[] want = {1, f.height, f.soil, f.ditch, f.water, f.salt, f.level(), f.dry, f.wet};
                for (int what = 0; what < want.length; what++) {
                    due.is("square(" + s + ", " + what + ")" + of, x.square(s, what), want[what]);
                }
            }
        }
        for (int i = 0; i < book.works.size(); i++) {
            Building w = book.works.get(i);
            due.is("kind of " + i + of, x.work(i, 0), w.kind);
            due.is("latest of " + i + of, x.work(i, 3), w.latest);
            due.is("total of " + i + of, x.work(i, 4), w.total);
            if (w.kind == 1) {
                due.is("width of " + i + of, x.work(i, 5), w.width);
            } else if (w.kind == 3) {
                due.is("coal of " + i + of, x.work(i, 6), w.coal);
            }
        }
        due.is("outside" + of, x.sky(book.hour, 0), book.outside(book.hour));
        due.is("wind" + of, x.sky(book.hour, 1), book.wind(book.hour));
        due.is("rain" + of, x.sky(book.hour, 2), book.rain(book.hour));
        due.is("rained" + of, x.count(13), book.rained);
        due.is("in" + of, x.count(14), book.in);
        due.is("out" + of, x.count(15), book.out);
    }
}
