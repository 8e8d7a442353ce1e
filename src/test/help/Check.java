import java.util.function.Supplier;
import java.util.function.ToLongFunction;

/** What the tests of the edges share: answers that are due, houses told by a text, calls that are refused. */
final class Check {
    static final int MOST = Integer.MAX_VALUE, LEAST = Integer.MIN_VALUE;

    private static int asked = 0;
    private static int wrong = 0;

    private Check() { }

    static void due(String what, long got, long want) {
        asked++;
        if (got != want) {
            wrong++;
            if (wrong <= 40) {
                System.out.println(what + ": answered " + got + ", due is " + want);
            }
        }
    }

    /** Each number in its turn is due. */
    static void row(String what, long[] got, long... want) {
        due(what + ": how many", got.length, want.length);
        for (int i = 0; i < Math.min(got.length, want.length); i++) {
            due(what + " [" + i + "]", got[i], want[i]);
        }
    }

    static void end(String what) {
        System.out.println(wrong == 0 ? asked + " answers on " + what + " as due"
                : wrong + " of " + asked + " answers on " + what + " are not as due");
        if (wrong != 0) {
            System.exit(1);
        }
    }

    /** THE TEXT is this one; its signs are bytes, 0 to 255. */
    static void write(OneRoom x, String s) {
        x.clear();
        for (int i = 0; i < s.length();) {
            int n = Math.min(8, s.length() - i);
            long v = 0;
            for (int k = 0; k < n; k++) {
                v = v << 8 | s.charAt(i + k);
            }
            x.type(v, n);
            i += n;
        }
    }

    static int told(OneRoom x, String s) {
        write(x, s);
        return x.house();
    }

    /** A new object whose house is told by a text, of which nothing is left. */
    static OneRoom house(String s) {
        OneRoom x = new OneRoom();
        int items = told(x, s);
        if (items < 0) {
            due("the house of the test: " + s, items, 0);
        }
        x.clear();
        return x;
    }

    /** A house in which there is some of all: three sleepers in four beds, sounds, rules, an image, a text, a fraction. */
    static OneRoom lived() {
        OneRoom x = house("fade 3;door 14;wall 22;wall 23;board 15 20;board 8 7;bed 15;bed 20;bed 33;bed 1;"
                + "sleeper 10 2 0 40 30;sleeper 6 1 4 30 0;sleeper 20 3 2 38 12;lie 0 1;lie 2 0;"
                + "noise 35 3 9 50;cried 1 6 20 40;out 0 8 12 5;turned 2 0 39 12;");
        x.image(0);
        x.rule(0, 1, true);
        x.rule(2, 3, false);
        x.put(0, 2);
        x.tent(1, 7);
        write(x, "bed 3;wall 9;fade 1;");
        return x;
    }

    /** A call that is refused: its answer; it changes nothing but STATUS, which counts it once, as told. */
    static void refused(String what, Supplier<OneRoom> house, ToLongFunction<OneRoom> call, int reason, long answer) {
        OneRoom x = house.get();
        due(what, call.applyAsLong(x), answer);
        alike(what, x, house.get(), -2 - reason);
    }

    static void bad(String what, Supplier<OneRoom> house, ToLongFunction<OneRoom> call) {
        refused(what, house, call, -2, -2);
    }

    static void no(String what, Supplier<OneRoom> house, ToLongFunction<OneRoom> call) {
        refused(what, house, call, -3, -3);
    }

    static void full(String what, Supplier<OneRoom> house, ToLongFunction<OneRoom> call) {
        refused(what, house, call, -4, -4);
    }

    /** A call that only asks, with an answer that is no refusal: it changes nothing at all. */
    static void asks(String what, Supplier<OneRoom> house, ToLongFunction<OneRoom> call, long answer) {
        OneRoom x = house.get();
        due(what, call.applyAsLong(x), answer);
        alike(what, x, house.get(), -1);
    }

    /** That x is as y in all but one of STATUS (-1: none), in which it has one more; both are changed by it. */
    static void alike(String what, OneRoom x, OneRoom y, int oneMore) {
        for (int i = 0; i < 3; i++) {
            due(what + ": status(" + i + ")", x.status(i), y.status(i) + (i == oneMore ? 1 : 0));
        }
        due(what + ": digest", x.digest(), y.digest());
        due(what + ": what the text tells", x.house(), y.house());
        due(what + ": the house told", x.digest(), y.digest());
        for (int i = 0; i < 2; i++) {
            due(what + ": from(" + i + ")", x.from(i), y.from(i));
            due(what + ": image " + i, x.digest(), y.digest());
        }
    }

    /** That in all that digest and STATUS tell x is as it was. */
    static long[] state(OneRoom x) {
        return new long[] {x.digest(), x.status(0), x.status(1), x.status(2)};
    }
}
