import java.util.function.LongSupplier;

/** What the project's own tests share: counting wrong answers, feeding texts, seeing all that can be asked. */
final class Due {
    static final int NONE = -1, UNKNOWN = -100000001, OUTSIDE = -100000002, NOT = -100000003, FULL = -100000004;
    private static int wrong = 0;
    private static int seen = 0;
    private static String sentence = "";

    private Due() {
    }

    /** What the document says, ahead of what is asked for it: a promise's number and its words. */
    static void says(String promise, String words) {
        sentence = promise + " \"" + words + "\": ";
    }

    static void is(String call, long got, long want) {
        seen++;
        if (got != want) {
            tellWrong(call + " answered " + got + ", due is " + want);
        }
    }

    private static void tellWrong(String what) {
        wrong++;
        System.out.println(sentence + what);
    }

    static void holds(String what, boolean so) {
        is(what, so ? 1 : 0, 1);
    }

    /** Refused, and all counts are as they were: in few calls, as one object has only 512. Bounds.refuses sees the rest. */
    static void refused(TurnedRiver x, String call, int want, LongSupplier answer) {
        String before = counts(x);
        is(call, answer.getAsLong(), want);
        same(call + " was refused", counts(x), before);
    }

    private static String counts(TurnedRiver x) {
        StringBuilder s = new StringBuilder("fault ").append(x.fault());
        for (int what = 0; what <= 6; what++) {
            s.append(" told").append(what).append('=').append(x.told(what));
        }
        return s.toString();
    }

    static void same(String what, String got, String want) {
        seen++;
        if (!got.equals(want)) {
            tellWrong(what + ": " + got + ", due is " + want);
        }
    }

    static int feed(TurnedRiver x, String text) {
        int answer = x.told(2);
        for (int i = 0; i < text.length(); i += 8) {
            int n = Math.min(8, text.length() - i);
            long bytes = 0;
            for (int j = 0; j < n; j++) {
                bytes = bytes << 8 | text.charAt(i + j) & 255;
            }
            answer = x.feed(n, bytes);
        }
        return answer;
    }

    static int river(TurnedRiver x, String text) {
        feed(x, text);
        return x.river();
    }

    static int plan(TurnedRiver x, String text) {
        feed(x, text);
        return x.plan();
    }

    static TurnedRiver of(String text) {
        TurnedRiver x = new TurnedRiver();
        holds("river of " + text, river(x, text) >= 0);
        return x;
    }

    /** All that can be asked without a change. */
    static String all(TurnedRiver x) {
        StringBuilder s = new StringBuilder(counts(x));
        for (int k = 0; k < x.told(0); k++) {
            for (int what = 0; what <= 4; what++) {
                s.append(" node").append(k).append('.').append(what).append('=').append(x.node(k, what));
                s.append(" gate").append(k).append('.').append(what).append('=').append(x.gate(k, what));
            }
            s.append(" tried").append(x.tried(60, 0, k));
        }
        for (int l = 0; l < x.told(4); l++) {
            for (int what = 0; what <= 6; what++) {
                s.append(" wood").append(l).append('.').append(what).append('=').append(x.wood(l, what));
            }
        }
        for (int e = 0; e < 10000; e = e * 3 + 1) {
            s.append(" judge").append(x.judge(e));
        }
        int seed = x.seed(0);
        x.seed(seed);
        return s.append(" seed=").append(seed).toString();
    }

    static void end() {
        System.out.println(wrong == 0 ? seen + " answers are as due" : wrong + " of " + seen + " answers are not as due");
        if (wrong != 0) {
            System.exit(1);
        }
    }
}
