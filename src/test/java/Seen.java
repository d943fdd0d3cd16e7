/** All that can be asked of an object without changing it, as one text. */
final class Seen {
    private static final int NONE = SeaLand.NONE;

    private Seen() {
    }

    static String all(SeaLand x) {
        StringBuilder all = new StringBuilder();
        counts(x, all);
        squares(x, all);
        works(x, all);
        people(x, all);
        sky(x, all);
        plans(x, all);
        rows(x, all);
        return all.toString();
    }

    private static void put(StringBuilder all, String name, long n) {
        all.append(name).append('=').append(n).append('\n');
    }

    private static void counts(SeaLand x, StringBuilder all) {
        for (int what = 0; what <= 17; what++) {
            put(all, "count " + what, x.count(what));
        }
        put(all, "fault", x.fault());
        for (int rank = 0; rank <= x.count(7); rank++) {
            put(all, "arrears " + rank, x.arrears(rank));
        }
        for (int contract = 0; contract < x.count(12); contract++) {
            put(all, "least of " + contract, x.yards(contract, false));
            put(all, "most of " + contract, x.yards(contract, true));
        }
    }

    private static void squares(SeaLand x, StringBuilder all) {
        for (int s = 0; s < 96; s++) {
            for (int what = 0; what <= 10; what++) {
                put(all, "square " + s + " " + what, x.square(s, what));
            }
            put(all, "law level " + s, x.lawLevel(s));
            put(all, "may build " + s, x.mayBuild(s) ? 1 : 0);
        }
    }

    private static void works(SeaLand x, StringBuilder all) {
        for (int w = 0; w < x.count(2); w++) {
            for (int what = 0; what <= 7; what++) {
                put(all, "work " + w + " " + what, x.work(w, what));
            }
            if (x.work(w, 0) <= 1) {
                for (int outside = -1000; outside <= 1000; outside += 125) {
                    put(all, "seep " + w + " " + outside, x.seep(w, outside));
                }
            }
            if (x.work(w, 0) == 1) {
                put(all, "soonest " + w, x.soonest(w, 8, 0));
                put(all, "soonest of all " + w, x.soonest(w, 60, 1000));
            }
        }
    }

    private static void people(SeaLand x, StringBuilder all) {
        for (int s = 0; s < x.count(7); s++) {
            for (int what = 0; what <= 6; what++) {
                put(all, "who " + s + " " + what, what > 5 ? 0 : x.who(s, what));
                put(all, "rules " + s + " " + what, what > 5 ? 0 : x.rules(s, what));
                put(all, "why " + s + " " + what, x.why(s, what));
            }
        }
        for (int f = 0; f < x.count(9); f++) {
            put(all, "worth " + f, x.worth(f));
            put(all, "levels " + f, x.levels(f, 0));
            put(all, "levels by 60 " + f, x.levels(f, 60));
        }
    }

    private static void sky(SeaLand x, StringBuilder all) {
        for (int hour = 0; hour <= 40000; hour += hour < 60 ? 1 : 1331) {
            for (int what = 0; what <= 2; what++) {
                put(all, "sky " + hour + " " + what, x.sky(hour, what));
            }
        }
        for (int what = 0; what <= 2; what++) {
            put(all, "sky of the last hour " + what, x.sky(40000, what));
        }
    }

    private static void plans(SeaLand x, StringBuilder all) {
        put(all, "lifts", x.lifts(100, 10, 5, 90));
        for (int coin = 0; coin <= 1000000; coin += 500000) {
            for (int place = NONE; place <= 7; place++) {
                put(all, "order " + coin + " " + place, x.order(coin, place));
            }
        }
    }

    private static void rows(SeaLand x, StringBuilder all) {
        for (int i = 0; i < x.count(17); i++) {
            for (int s = 0; s < 96; s++) {
                put(all, "row " + i + " " + s, x.row(i, s));
            }
        }
        put(all, "check", x.check());
    }
}
