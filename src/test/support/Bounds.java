import java.util.function.Supplier;
import java.util.function.ToIntFunction;

/** What the tests of boundary cases share: objects in states of many kinds, and twins that show what a call changed. */
final class Bounds {
    /** LEVELS as HOUR 0 begins: 30, 8, 0. */
    static final String SMALL = "lake 10 2 40;pond 5 1 3;tide 0,20;gate 0 1 4;gate 1 2 7;";
    /** No water goes through its gates. */
    static final String STILL = "lake 10 2 40;pond 5 1 3;gate 0 0 4;gate 1 0 7;";
    /** The least and the greatest int, beside the bounds of each number. */
    static final int LEAST = Integer.MIN_VALUE, MOST = Integer.MAX_VALUE;

    private Bounds() {
    }

    /** A river in HOUR 2 with a plan, logs, a book, a seed, both images and a fault, but no text. */
    static TurnedRiver quiet() {
        TurnedRiver x = Due.of(SMALL);
        Due.plan(x, "at 3 0 2;at 9 1 5;at 40 0 0;");
        x.seed(77);
        x.log(0, 5);
        x.log(2, 12);
        x.write(13);
        x.write(28);
        x.keep(0);
        x.go(1);
        x.log(1, 7);
        x.keep(1);
        x.go(1);
        Due.plan(x, "at 5 0 1;at 4");
        return x;
    }

    /** As quiet(), with a text that was not told yet. */
    static TurnedRiver busy() {
        TurnedRiver x = quiet();
        Due.feed(x, "lake 1 2 3;pond 4 5 6;");
        return x;
    }

    /** No NODES, but all that there can be without them. */
    static TurnedRiver bare() {
        TurnedRiver x = new TurnedRiver();
        Due.river(x, "lake 0 0 0;");
        x.seed(5);
        x.write(6);
        x.keep(1);
        x.seed(7);
        Due.feed(x, "lake 1 2 3;pond 4 5 6;");
        return x;
    }

    /** As busy(), with twelve LOGS. */
    static TurnedRiver wooded() {
        TurnedRiver x = busy();
        for (int l = 3; l < 12; l++) {
            x.log(l % 3, l);
        }
        return x;
    }

    /** As busy(), with sixty entries in THE BOOK. */
    static TurnedRiver booked() {
        TurnedRiver x = busy();
        for (int i = 2; i < 60; i++) {
            x.write(i);
        }
        return x;
    }

    /** As quiet(), with a text of 400 bytes. */
    static TurnedRiver filled() {
        TurnedRiver x = quiet();
        Due.feed(x, " ".repeat(389) + "lake 1 2 3;");
        return x;
    }

    /** Ten NODES: the most that there can be. */
    static TurnedRiver long10() {
        StringBuilder s = new StringBuilder("lake 0 1 0;");
        for (int i = 1; i <= 8; i++) {
            s.append("pond ").append(i).append(" 1 ").append(10 * i).append(';');
        }
        return Due.of(s.toString());
    }

    /** The call is refused so, and does nothing that any later call could see. */
    static void refuses(Supplier<TurnedRiver> made, String call, int want, ToIntFunction<TurnedRiver> asked) {
        TurnedRiver x = made.get();
        Due.is(call, asked.applyAsInt(x), want);
        Due.same(call + " changes nothing", whole(x), whole(made.get()));
    }

    /** The call answers so, and does nothing that any later call could see. */
    static void answers(Supplier<TurnedRiver> made, String call, int want, ToIntFunction<TurnedRiver> asked) {
        refuses(made, call, want, asked);
    }

    /** All that can be asked and then, at the object's cost, what its images and its text hold. */
    static String whole(TurnedRiver x) {
        StringBuilder s = new StringBuilder(Due.all(x));
        for (int i = 0; i < 2; i++) {
            s.append(" image").append(i).append('=').append(x.goBack(i)).append(brief(x));
        }
        s.append(" text=").append(x.river()).append(',').append(x.fault()).append(brief(x));
        return s.toString();
    }

    /** All but the byte of the latest fault. */
    static String wholeButFault(TurnedRiver x) {
        return whole(x).replaceFirst("fault \\S+", "");
    }

    private static String brief(TurnedRiver x) {
        StringBuilder s = new StringBuilder("[");
        for (int what = 3; what <= 6; what++) {
            s.append(x.told(what)).append(' ');
        }
        for (int k = 0; k < x.told(0); k++) {
            s.append(x.node(k, 2)).append(':').append(x.node(k, 4)).append(' ');
            s.append(x.gate(k, 0)).append('/').append(x.gate(k, 2)).append('/').append(x.gate(k, 3)).append('/').append(x.gate(k, 4)).append(' ');
        }
        for (int l = 0; l < x.told(4); l++) {
            s.append(x.wood(l, 3)).append(' ');
        }
        int seed = x.seed(0);
        x.seed(seed);
        return s.append(seed).append(']').toString();
    }
}
