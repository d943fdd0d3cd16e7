import java.io.IOException;
import java.nio.file.Files;
import java.nio.file.Path;

/** What the tests share: answers that are due, calls that must throw, and texts for the tape. */
final class Due {
    interface Call {
        void run();
    }

    interface CallWith {
        void run(int n);
    }

    private static final Path DOC = Path.of("../shared/DOC.md");

    private int wrong;
    private String document;
    private String sentence = "";

    /** The sentence of the document that the next answers are due by: it must stand there, word by word. */
    void says(String words) {
        sentence = " [" + words + "]";
        if (document == null) {
            document = readDocument();
        }
        if (!document.contains(words)) {
            wrong++;
            System.out.println("the document does not say: " + words);
        }
    }

    private static String readDocument() {
        try {
            return Files.readString(DOC).replaceAll("\\s+", " ");
        } catch (IOException e) {
            return "";
        }
    }

    private void tell(String what) {
        wrong++;
        System.out.println(what + sentence);
    }

    void is(String call, long got, long want) {
        if (got != want) {
            tell(call + " answered " + got + ", due is " + want);
        }
    }

    void is(String call, boolean got, boolean want) {
        is(call, got ? 1 : 0, want ? 1 : 0);
    }

    void none(String call, long got) {
        is(call, got, SeaLand.NONE);
    }

    void fails(String call, Class<?> want, Call run) {
        Class<?> got = null;
        try {
            run.run();
        } catch (RuntimeException e) {
            got = e.getClass();
        }
        if (got != want) {
            tell(call + " threw " + got + ", due is " + want);
        }
    }

    /** The last numbers that are taken and the first that are not, on both sides. */
    private void edges(String call, Class<?> want, int least, int most, CallWith run) {
        for (int n : new int[] {Integer.MIN_VALUE, least - 1, most + 1, Integer.MAX_VALUE}) {
            fails(call + " of " + n, want, () -> run.run(n));
        }
        for (int n : new int[] {least, least + (most - least) / 2, most}) {
            fails(call + " of " + n, null, () -> run.run(n));
        }
    }

    void numbers(String call, int least, int most, CallWith run) {
        edges(call, IllegalArgumentException.class, least, most, run);
    }

    void indices(String call, int many, CallWith run) {
        edges(call, IndexOutOfBoundsException.class, 0, many - 1, run);
    }

    void whats(String call, int most, CallWith run) {
        edges(call, java.util.NoSuchElementException.class, 0, most, run);
    }

    void wrongIndex(String call, Call run) {
        fails(call, IndexOutOfBoundsException.class, run);
    }

    void wrongNumber(String call, Call run) {
        fails(call, IllegalArgumentException.class, run);
    }

    void wrongState(String call, Call run) {
        fails(call, IllegalStateException.class, run);
    }

    void wrongKind(String call, Call run) {
        fails(call, ClassCastException.class, run);
    }

    void nothingSuch(String call, Call run) {
        fails(call, java.util.NoSuchElementException.class, run);
    }

    void tooMany(String call, Call run) {
        fails(call, UnsupportedOperationException.class, run);
    }

    void end() {
        System.out.println(wrong == 0 ? "all answers are as due" : wrong + " answers are not as due");
        if (wrong != 0) {
            System.exit(1);
        }
    }

    /** Puts a text on the tape, whose signs are bytes. */
    static void tape(SeaLand x, String text) {
        x.end(0);
        int[] five = new int[5];
        for (int begin = 0; begin < text.length(); begin += 20) {
            for (int i = 0; i < 5; i++) {
                five[i] = 0;
                for (int j = 0; j < 4; j++) {
                    int at = begin + 4 * i + j;
                    five[i] = five[i] << 8 | (at < text.length() ? text.charAt(at) : 0);
                }
            }
            x.feed(five[0], five[1], five[2], five[3], five[4]);
        }
        x.end(text.length());
    }

    static int found(SeaLand x, String text) {
        tape(x, text);
        return x.found();
    }

    static int propose(SeaLand x, String text) {
        tape(x, text);
        return x.propose();
    }
}
