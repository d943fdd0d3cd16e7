import java.util.ArrayDeque;
import java.util.ArrayList;
import java.util.Arrays;
import java.util.Deque;
import java.util.List;
import java.util.Random;

/** Any texts, right and wrong, against a second reader of them that goes word by word with a list of what is open. */
public final class LawByTheBookTest {
    private static final int TEXTS = 20000;
    private static final List<String> FACTS =
            Arrays.asList("acres", "gain", "age", "sons", "coin", "cattle", "kin", "board", "near", "owes");
    private static final List<String> NUMBERED = Arrays.asList("dues", "gain", "votes", "fine", "mark");
    private static final String[] ANY = {"dues", "gain", "votes", "fine", "mark", "call", "out", "level", "pass", "bar", "in", "if", "and",
        "or", "not", "(", ")", "<", ">", "+", ";", "0", "7", "18", "19", "95", "96", "100", "101", "900", "901", "99999", "123456", "age",
        "coin", "near", "x", "agee", "-", "=", "IF", "\t"};
    private static final Due due = new Due();

    public static void main(String[] args) {
        Random random = new Random(5);
        int right = 0;
        for (int i = 0; i < TEXTS; i++) {
            String text = spoiled(rightText(random), random, i % 4);
            right += compare(text);
        }
        due.is("many are right", right > TEXTS / 5, true);
        due.is("many are wrong", right < TEXTS * 4 / 5, true);
        for (int i = 0; i < 3000; i++) {
            values(random);
        }
        due.end();
    }

    private static int compare(String text) {
        SeaLand x = new SeaLand();
        Due.tape(x, text);
        int want = firstWrong(text);
        int lines = SeaLand.NONE;
        try {
            lines = x.found();
        } catch (IllegalArgumentException e) {
            due.is("'" + text + "' is wrong", want >= 0, true);
        }
        due.is("fault of '" + text + "'", x.fault(), want);
        if (want < 0) {
            int signs = 0;
            for (int i = 0; i < text.length(); i++) {
                signs += text.charAt(i) == ';' ? 1 : 0;
            }
            due.is("lines of '" + text + "'", lines, text.isBlank() ? 0 : signs + 1);
        }
        return want < 0 ? 1 : 0;
    }

    // ---- the second reader ---------------------------------------------------------------------

    private static List<int[]> things(String text) {
        List<int[]> all = new ArrayList<>();
        for (int i = 0; i < text.length();) {
            int j = i + 1;
            char c = text.charAt(i);
            if (c == ' ') {
                i++;
                continue;
            }
            if (c >= 'a' && c <= 'z') {
                while (j < text.length() && text.charAt(j) >= 'a' && text.charAt(j) <= 'z') {
                    j++;
                }
            } else if (c >= '0' && c <= '9') {
                while (j < text.length() && text.charAt(j) >= '0' && text.charAt(j) <= '9') {
                    j++;
                }
            }
            all.add(new int[] {i, j});
            i = j;
        }
        return all;
    }

    /** What may stand next: each state says which things it takes, and whether the text may end there. */
    private static int firstWrong(String text) {
        Deque<String> open = new ArrayDeque<>();
        List<int[]> numbers = new ArrayList<>();
        String state = "first";
        int lines = 0;
        for (int[] thing : things(text)) {
            String word = text.substring(thing[0], thing[1]);
            String next = next(state, word, open, numbers, lines);
            if (next == null) {
                return thing[0];
            }
            lines += state.equals("first") || state.equals("line") ? 1 : 0;
            state = next;
        }
        boolean mayEnd = state.equals("first") || state.equals("headed") || state.equals("closed")
                || (state.equals("right") || state.equals("shut")) && !open.contains("(");
        return mayEnd ? -1 : text.length();
    }

    private static String next(String state, String word, Deque<String> open, List<int[]> numbers, int lines) {
        switch (state) {
            case "first":
            case "line":
                return lines < 20 ? afterHead(word, numbers) : null;
            case "number":
                return afterNumber(word, numbers);
            case "in":
                return word.equals("in") ? "number" : null;
            case "headed":
                open.clear();
                return word.equals("if") ? "atom" : word.equals(";") ? "line" : null;
            case "closed":
                return word.equals(";") ? "line" : null;
            case "atom":
                if (word.equals("not") || word.equals("(")) {
                    open.push(word);
                    return open.size() > 6 ? null : "atom";
                }
                return isPart(word) ? "left" : null;
            case "left":
                return word.equals("+") ? "leftPart" : word.equals("<") || word.equals(">") ? "rightPart" : null;
            case "leftPart":
                return isPart(word) ? "left" : null;
            case "rightPart":
                return isPart(word) ? "right" : null;
            case "right":
                return word.equals("+") ? "rightPart" : afterAtom(word, open);
            default:
                return afterAtom(word, open);
        }
    }

    private static String afterHead(String word, List<int[]> numbers) {
        numbers.clear();
        if (word.equals("level")) {
            numbers.addAll(Arrays.asList(new int[] {900, 0}, new int[] {900, 1}, new int[] {95, 0}, new int[] {95, 2}));
        } else if (word.equals("pass") || word.equals("bar")) {
            numbers.add(new int[] {word.equals("pass") ? 100 : 18, 2});
        } else if (NUMBERED.contains(word)) {
            numbers.add(new int[] {99999, 3});
        } else {
            return word.equals("call") || word.equals("out") ? "headed" : null;
        }
        return "number";
    }

    private static String afterNumber(String word, List<int[]> numbers) {
        int[] spec = numbers.remove(0);
        if (!isNumber(word) || Integer.parseInt(word) > spec[0]) {
            return null;
        }
        return new String[] {"number", "in", "closed", "headed"}[spec[1]];
    }

    private static String afterAtom(String word, Deque<String> open) {
        while (!open.isEmpty() && open.peek().equals("not")) {
            open.pop();
        }
        if (word.equals("and") || word.equals("or")) {
            return "atom";
        }
        if (word.equals(")") && !open.isEmpty()) {
            open.pop();
            return "shut";
        }
        return word.equals(";") && open.isEmpty() ? "line" : null;
    }

    private static boolean isNumber(String word) {
        return word.length() <= 5 && word.chars().allMatch(c -> c >= '0' && c <= '9');
    }

    private static boolean isPart(String word) {
        return isNumber(word) || FACTS.contains(word);
    }

    // ---- texts ---------------------------------------------------------------------------------

    private static String rightText(Random random) {
        StringBuilder text = new StringBuilder();
        int lines = random.nextInt(6) == 0 ? random.nextInt(24) : 1 + random.nextInt(4);
        for (int i = 0; i < lines; i++) {
            text.append(i == 0 ? "" : ";").append(line(random, lines > 6 ? 0 : 1));
        }
        return text.length() > 400 ? text.substring(0, 400) : text.toString();
    }

    private static String line(Random random, int conditions) {
        int way = random.nextInt(10);
        if (way == 0) {
            return "level " + random.nextInt(902) + " " + random.nextInt(902) + " in " + random.nextInt(97) + " " + random.nextInt(96);
        }
        if (way == 1) {
            return random.nextBoolean() ? "pass " + random.nextInt(102) : "bar " + random.nextInt(20);
        }
        String head = way < 4 ? (random.nextBoolean() ? "call" : "out") : NUMBERED.get(random.nextInt(5)) + " " + random.nextInt(1000);
        return conditions == 0 || random.nextInt(3) == 0 ? head : head + " if " + any(random, random.nextInt(4));
    }

    private static String any(Random random, int depth) {
        String all = atom(random, depth);
        int more = random.nextInt(3);
        for (int i = 0; i < more; i++) {
            all += (random.nextBoolean() ? " and " : " or ") + atom(random, depth);
        }
        return all;
    }

    private static String atom(Random random, int depth) {
        int way = depth <= 0 ? 9 : random.nextInt(5);
        if (way == 0) {
            return "not " + atom(random, depth - (random.nextInt(4) == 0 ? 0 : 1));
        }
        if (way == 1) {
            return "(" + any(random, depth - 1) + ")";
        }
        return sum(random) + (random.nextBoolean() ? "<" : " > ") + sum(random);
    }

    private static String sum(Random random) {
        String all = "";
        int parts = 1 + random.nextInt(3);
        for (int i = 0; i < parts; i++) {
            all += (i == 0 ? "" : "+") + (random.nextBoolean() ? FACTS.get(random.nextInt(10)) : "" + random.nextInt(200));
        }
        return all;
    }

    private static String spoiled(String text, Random random, int times) {
        StringBuilder all = new StringBuilder(text);
        for (int i = 0; i < times && all.length() > 0; i++) {
            int at = random.nextInt(all.length());
            switch (random.nextInt(6)) {
                case 0:
                    all.deleteCharAt(at);
                    break;
                case 1:
                    all.insert(at, ANY[random.nextInt(ANY.length)]);
                    break;
                case 2:
                    all.insert(at, ' ');
                    break;
                case 3:
                    all.insert(at, " " + ANY[random.nextInt(ANY.length)] + " ");
                    break;
                case 4:
                    all.setLength(at);
                    break;
                default:
                    all.insert(at, random.nextBoolean() ? "(" : "not ");
            }
        }
        return all.length() > 400 ? all.substring(0, 400) : all.toString();
    }

    // ---- what a text says ----------------------------------------------------------------------

    /** Reads a condition that is right, from a place on, and says whether it holds. */
    private static final class Says {
        private final List<String> words = new ArrayList<>();
        private final int[] facts;
        private int at;

        Says(String text, int[] facts) {
            for (int[] thing : things(text)) {
                words.add(text.substring(thing[0], thing[1]));
            }
            this.facts = facts;
        }

        private boolean takes(String word) {
            boolean is = at < words.size() && words.get(at).equals(word);
            at += is ? 1 : 0;
            return is;
        }

        boolean any() {
            boolean holds = all();
            while (takes("or")) {
                holds |= all();
            }
            return holds;
        }

        private boolean all() {
            boolean holds = atom();
            while (takes("and")) {
                holds &= atom();
            }
            return holds;
        }

        private boolean atom() {
            if (takes("not")) {
                return !atom();
            }
            if (takes("(")) {
                boolean holds = any();
                takes(")");
                return holds;
            }
            long one = sum();
            boolean less = takes("<");
            at += less ? 0 : 1;
            long other = sum();
            return less ? one < other : one > other;
        }

        private long sum() {
            long sum = part();
            while (takes("+")) {
                sum += part();
            }
            return sum;
        }

        private long part() {
            String word = words.get(at++);
            return FACTS.contains(word) ? facts[FACTS.indexOf(word)] : Integer.parseInt(word);
        }
    }

    private static void values(Random random) {
        SeaLand x = new SeaLand();
        int[] facts = {0, 0, random.nextInt(100), random.nextInt(21), random.nextInt(300), random.nextInt(101), random.nextInt(2),
            random.nextInt(2), 99, 0};
        x.settler(facts[2], facts[3], facts[4], facts[5], facts[6] == 1, facts[7] == 1, 0);
        int[] want = new int[5];
        int[] why = {-1, -1, -1, -1, -1, -1, -1};
        String[] heads = {"dues", "gain", "votes", "fine", "mark", "call", "out"};
        StringBuilder text = new StringBuilder();
        for (int line = 0; line < 4; line++) {
            int kind = random.nextInt(7);
            int number = random.nextInt(100);
            String condition = any(random, random.nextInt(3));
            if (text.length() + condition.length() > 380) {
                break;
            }
            text.append(line == 0 ? "" : ";").append(heads[kind]).append(kind < 5 ? " " + number : "").append(" if ").append(condition);
            boolean holds = new Says(condition, facts).any();
            if (holds && why[kind] < 0) {
                why[kind] = line;
            }
            if (holds && kind < 5) {
                want[kind] += number;
            }
        }
        Due.found(x, text.toString());
        for (int kind = 0; kind < 7; kind++) {
            due.is("why " + kind + " of '" + text + "'", x.why(0, kind), why[kind]);
        }
        int[] rules = {want[0], want[2], want[3], want[4], why[5] >= 0 ? 1 : 0, why[6] >= 0 ? 1 : 0};
        for (int what = 0; what < 6; what++) {
            due.is("rules " + what + " of '" + text + "'", x.rules(0, what), rules[what]);
        }
    }
}
