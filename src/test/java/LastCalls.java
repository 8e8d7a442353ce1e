import java.util.ArrayList;
import java.util.List;
import java.util.function.ToLongFunction;

/** An object answers as promised up to its 512th call, whatever was asked before; objects know nothing of one another. */
public final class LastCalls {
    private static final int CALLS = 512;

    /** A call of each kind in a house in which there is some of all, by which something is another one. */
    private static final List<ToLongFunction<OneRoom>> CHANGING = List.of(
            x -> x.wall(9, true), x -> x.wall(22, false), x -> x.board(8, 11), x -> x.put(0, 4), x -> x.put(1, 30), x -> x.bed(4),
            x -> x.sleeper(33, 4, 3, 31, 3), x -> x.lie(0, 3), x -> x.lie(2, -1), x -> x.sound(3, 0, 17, 20, 33), x -> x.still(),
            x -> x.type(0x3132_3300_ffL, 5), x -> x.clear(), x -> x.house(), x -> x.rule(1, 2, true), x -> x.free(), x -> x.tent(0, 3),
            x -> x.image(0), x -> x.image(1), x -> x.from(0));

    private static final List<ToLongFunction<OneRoom>> ASKING = List.of(
            x -> x.distance(0, 35), x -> x.heard(15, 33, 20, 4), x -> x.slept(1), x -> x.is(0, 13), x -> x.wakes(0, -1), x -> x.wakes(1, 0),
            x -> x.woke(1, 0), x -> x.night(0), x -> x.night(1), x -> x.way(14, 35, 0), x -> x.way(33, 1, 1), x -> x.way(2, 31, 2),
            x -> x.best(true, -1), x -> x.best(false, 2), x -> x.cost(), x -> x.order(-1), x -> x.order(1), x -> x.worth(0, 0),
            x -> x.worth(1, 0), x -> x.worth(2, 15), x -> x.worth(3, 0), x -> x.screw(), x -> x.rooms(), x -> x.temper(1, 9),
            x -> x.quarrel(33), x -> x.part(0), x -> x.part(1), x -> x.status(0), x -> x.count(5), x -> x.digest());

    private static final List<ToLongFunction<OneRoom>> REFUSED = List.of(
            x -> x.wall(36, true), x -> x.board(0, 41), x -> x.put(2, 0), x -> x.bed(15), x -> x.sleeper(0, 1, 0, 40, 0), x -> x.lie(0, 0),
            x -> x.lie(3, 0), x -> x.sound(4, 1, 0, 0, 0), x -> x.type(0, 9), x -> x.distance(-1, 0), x -> x.heard(0, 61, 0, 0),
            x -> x.slept(3), x -> x.is(0, 40), x -> x.wakes(0, -2), x -> x.woke(1, 1), x -> x.night(2), x -> x.way(22, 0, 0),
            x -> x.rule(0, 4, true), x -> x.best(true, 3), x -> x.order(-2), x -> x.worth(4, 0), x -> x.temper(0, 15), x -> x.quarrel(0),
            x -> x.tent(0, 11), x -> x.part(2), x -> x.image(2), x -> x.from(1), x -> x.status(3), x -> x.count(6));

    /** An object that counts what it is asked, with a house in which there is some of all. */
    private static final class Asked {
        final OneRoom room = new OneRoom();
        int calls = 0;

        Asked() {
            write("fade 3;door 14;wall 22;wall 23;board 15 20;board 8 7;bed 15;bed 20;bed 33;bed 1;"
                    + "sleeper 10 2 0 40 30;sleeper 6 1 4 30 0;sleeper 20 3 2 38 12;lie 0 1;lie 2 0;"
                    + "noise 35 3 9 50;cried 1 6 20 40;out 0 8 12 5;turned 2 0 39 12;");
            ask(OneRoom::house);
            ask(x -> x.image(0));
            ask(x -> x.rule(0, 1, true));
            ask(x -> x.rule(2, 3, false));
            ask(x -> x.put(0, 2));
            ask(x -> x.tent(1, 7));
            write("bed 3;wall 9;fade 1;");
        }

        private void write(String s) {
            ask(OneRoom::clear);
            for (char c : s.toCharArray()) {
                ask(x -> x.type(c, 1));
            }
        }

        long ask(ToLongFunction<OneRoom> call) {
            calls++;
            return call.applyAsLong(room);
        }

        /** Asks on, over and over, with all that leaves the house as it is, until so many calls are left. */
        void askUntil(int left) {
            for (int i = 0; calls < CALLS - left; i++) {
                ask(ASKING.get(i % ASKING.size()));
            }
        }
    }

    private static OneRoom lived() {
        return new Asked().room;
    }

    private static void lastAnswers(String what, List<ToLongFunction<OneRoom>> calls) {
        for (int i = 0; i < calls.size(); i++) {
            Asked x = new Asked();
            x.askUntil(1);
            long got = x.ask(calls.get(i));
            Check.due("the last of the calls, " + what + " " + i, got, calls.get(i).applyAsLong(lived()));
            Check.due("so many calls", x.calls, CALLS);
        }
    }

    private static void lastChanges() {
        for (int i = 0; i < CHANGING.size(); i++) {
            Asked x = new Asked();
            x.askUntil(8);
            OneRoom y = lived();
            Check.due("changing " + i, x.ask(CHANGING.get(i)), CHANGING.get(i).applyAsLong(y));
            Check.due("changing " + i + ": digest", x.ask(OneRoom::digest), y.digest());
            Check.due("changing " + i + ": GOOD", x.ask(r -> r.night(1)), y.night(1));
            Check.due("changing " + i + ": BEST", x.ask(r -> r.best(true, -1)), y.best(true, -1));
            Check.due("changing " + i + ": the text", x.ask(OneRoom::house), y.house());
            Check.due("changing " + i + ": an image", x.ask(r -> r.from(1)), y.from(1));
            Check.due("changing " + i + ": an image", x.ask(r -> r.from(0)), y.from(0));
            Check.due("changing " + i + ": digest of it", x.ask(OneRoom::digest), y.digest());
            Check.due("so many calls", x.calls, CALLS);
        }
    }

    // ---- that nothing is used up

    private static void allRefused() {
        ToLongFunction<OneRoom> bad = x -> x.bed(36), no = OneRoom::still, full = x -> x.type(0, 5);
        OneRoom x = new OneRoom(), y = new OneRoom(), z = new OneRoom();
        for (int i = 0; i < 37; i++) {
            z.type(0, 8);
        }
        for (int i = 0; i < CALLS - 1; i++) {
            Check.due("refused as BAD", bad.applyAsLong(x), -2);
            Check.due("refused as NO", no.applyAsLong(y), -3);
            if (i >= 37) {
                Check.due("refused as FULL", full.applyAsLong(z), -4);
            }
        }
        Check.due("BAD all the time", x.status(0), CALLS - 1);
        Check.due("NO all the time", y.status(1), CALLS - 1);
        Check.due("FULL all the time", z.status(2), CALLS - 1 - 37);
    }

    private static void overAndOver() {
        OneRoom x = new OneRoom(), y = new OneRoom(), z = new OneRoom();
        long first = y.digest();
        y.image(0);
        y.board(35, 40);
        long second = y.digest();
        y.image(1);
        for (int i = 0; i < 250; i++) {
            Check.due("a sound comes", x.sound(0, 1, 2, 3, 4), 0);
            Check.due("a sound goes", x.still(), 1);
            Check.due("it goes on from an image", y.from(i % 2), 1);
            Check.due("as it was kept", y.digest(), i % 2 == 0 ? first : second);
            Check.due("a text comes", z.type(-1, 8), 8);
            Check.due("a text goes", z.clear(), 8);
        }
        Check.due("no sound is left", x.count(3), 0);
        Check.due("no text is left", z.count(5), 0);
    }

    private static void toldOverAndOver() {
        OneRoom x = new OneRoom();
        Check.write(x, "wall 1;bed 7;sleeper 9 2 1 39 8;lie 0 0;noise 8 2 9 60;out 0 4 4 60;");
        int house = x.house();
        long digest = x.digest();
        Check.due("six items", house, 6);
        for (int i = 0; i < 120; i++) {
            Check.due("told again", x.house(), house);
            Check.due("a rule comes", x.rule(0, 0, false), 0);
            Check.due("none is left", x.house() == house && x.digest() == digest ? 1 : 0, 1);
        }
    }

    private static void rulesOverAndOver() {
        OneRoom x = Check.house("bed 1;sleeper 9 2 1 39 8;");
        for (int i = 0; i < 80; i++) {
            for (int k = 0; k < 4; k++) {
                Check.due("a rule", x.rule(0, 0, k % 2 == 0), k);
            }
            Check.due("free", x.free(), 4);
        }
    }

    // ---- apart

    /** The answers of the k-th of some objects: each of them is asked the calls in an order of its own. */
    private static int turn(int k, int i) {
        return (7 * i + 11 * k) % (CHANGING.size() + ASKING.size() + REFUSED.size());
    }

    private static long askTurn(OneRoom x, int k, int i, List<ToLongFunction<OneRoom>> all) {
        return all.get(turn(k, i)).applyAsLong(x);
    }

    private static void apart() {
        List<ToLongFunction<OneRoom>> all = new ArrayList<>(CHANGING);
        all.addAll(ASKING);
        all.addAll(REFUSED);
        int turns = CALLS - new Asked().calls;
        OneRoom[] rooms = new OneRoom[3];
        for (int k = 0; k < rooms.length; k++) {
            rooms[k] = k == 2 ? new OneRoom() : lived();
        }
        long[][] got = new long[rooms.length][turns];
        for (int i = 0; i < turns; i++) {
            for (int k = 0; k < rooms.length; k++) {
                got[k][i] = askTurn(rooms[k], k, i, all);
            }
        }
        for (int k = 0; k < rooms.length; k++) {
            OneRoom alone = k == 2 ? new OneRoom() : lived();
            for (int i = 0; i < turns; i++) {
                Check.due("object " + k + ", call " + i, got[k][i], askTurn(alone, k, i, all));
            }
        }
    }

    public static void main(String[] args) {
        lastAnswers("changing", CHANGING);
        lastAnswers("asking", ASKING);
        lastAnswers("refused", REFUSED);
        lastChanges();
        allRefused();
        overAndOver();
        toldOverAndOver();
        rulesOverAndOver();
        apart();
        Check.end("the last calls");
    }
}
