import java.util.function.Supplier;

/** Compares answers with those that are due, prints the wrong ones, and ends a test. */
final class Due {
    /** One call on an object. */
    interface Call {
        long on(ChunkView x);
    }

    private static int wrong = 0;
    private static int asked = 0;
    private static String sentence = "";

    private Due() {
    }

    /** The sentence of the document that the next answers belong to. */
    static void says(String words) {
        sentence = "\"" + words + "\": ";
    }

    static void due(String call, long got, long want) {
        asked++;
        if (got != want) {
            wrong++;
            System.out.println(sentence + call + " answered " + got + ", due is " + want);
        }
    }

    static void holds(String what, boolean itDoes) {
        asked++;
        if (!itDoes) {
            wrong++;
            System.out.println(sentence + "does not hold: " + what);
        }
    }

    /** The call has its answer, and behind it the object holds what it held. */
    static void leavesAll(String name, Supplier<ChunkView> made, Call call, long want) {
        due(name, call.on(made.get()), want);
        Supplier<ChunkView> called = () -> {
            ChunkView x = made.get();
            call.on(x);
            return x;
        };
        holds("nothing changes behind " + name, Whole.of(called).equals(Whole.of(made)));
    }

    static void text(String when, ChunkView x, String text) {
        due(when + ": bytes", x.count(0), text.length());
        for (int i = 0; i < text.length(); i++) {
            due(when + ": at(" + i + ")", x.at(i), text.charAt(i));
        }
    }

    static void chunks(String when, ChunkView x, int... sizes) {
        due(when + ": chunks", x.count(6), sizes.length);
        for (int k = 0; k < sizes.length; k++) {
            due(when + ": chunk(" + k + ", 0)", x.chunk(k, 0), sizes[k]);
        }
    }

    static void row(String when, int[] got, int... want) {
        due(when + ": how many", got.length, want.length);
        for (int i = 0; i < Math.min(got.length, want.length); i++) {
            due(when + " [" + i + "]", got[i], want[i]);
        }
    }

    static int wrong() {
        return wrong;
    }

    static void ends() {
        System.out.println(wrong + " of " + asked + " are not as due");
        if (wrong != 0) {
            System.exit(1);
        }
    }
}
