import java.util.function.Supplier;

/** Of each number of each call: the last that is let in and the first that is not, on both sides; and numbers far off. */
public final class EdgeRanges {
    private interface Call {
        long of(OneRoom x, int v);
    }

    /** All from least to most are let in, all others refused as BAD with that answer. */
    private static void range(String what, Supplier<OneRoom> house, int least, int most, long answer, Call call) {
        for (int v = least; v <= most; v = v < least + 60 ? v + 1 : v < most - 60 ? most - 60 : v + 1) {
            OneRoom x = house.get();
            long[] was = Check.state(x);
            Check.due(what + " " + v + " is let in", call.of(x, v) == answer ? 0 : 1, 1);
            for (int i = 0; i < 3; i++) {
                Check.due(what + " " + v + ": status(" + i + ")", x.status(i), was[i + 1]);
            }
        }
        int[] off = {least - 1, least - 2, most + 1, most + 2, least - 256, most + 256, least + 65536, Check.LEAST, Check.LEAST + 1,
            Check.MOST, Check.MOST - 1};
        for (int v : off) {
            Check.refused(what + " " + v, house, x -> call.of(x, v), -2, answer);
        }
    }

    private static void range(String what, Supplier<OneRoom> house, int least, int most, Call call) {
        range(what, house, least, most, -2, call);
    }

    /** None is let in. */
    private static void none(String what, Supplier<OneRoom> house, long answer, Call call) {
        for (int v : new int[] {-2, 0, 1, 4, 5, 6, 35, Check.LEAST, Check.MOST}) {
            Check.refused(what + " " + v, house, x -> call.of(x, v), -2, answer);
        }
    }

    /** So many sleepers and beds, the first ones in the first ones. */
    private static OneRoom with(int sleepers, int beds) {
        OneRoom x = new OneRoom();
        for (int i = 0; i < beds; i++) {
            x.bed(i);
        }
        for (int i = 0; i < sleepers; i++) {
            x.sleeper(10, 1, 0, 40, 5);
            if (i < beds) {
                x.lie(i, i);
            }
        }
        return x;
    }

    /** All cells but the door have walls, or none has. */
    private static OneRoom withDoor(int door, boolean walls) {
        OneRoom x = new OneRoom();
        x.put(1, door);
        for (int c = 0; c < 36 && walls; c++) {
            if (c != door) {
                x.wall(c, true);
            }
        }
        return x;
    }

    // ---- 2 to 12: a house

    private static void cells() {
        range("wall", () -> withDoor(35, false), 0, 34, (x, v) -> x.wall(v, true));
        range("wall", () -> withDoor(0, false), 1, 35, (x, v) -> x.wall(v, true));
        range("no wall", () -> withDoor(35, true), 0, 34, (x, v) -> x.wall(v, false));
        range("no wall", () -> withDoor(0, true), 1, 35, (x, v) -> x.wall(v, false));
        range("board", Check::lived, 0, 35, (x, v) -> x.board(v, 3));
        range("creak", Check::lived, 0, 40, (x, v) -> x.board(35, v));
        range("creak", Check::lived, 0, 40, (x, v) -> x.board(0, v));
        range("bed", OneRoom::new, 0, 35, OneRoom::bed);
        range("put 0", Check::lived, 0, 1, (x, v) -> x.put(v, 0));
        range("put 9", Check::lived, 0, 1, (x, v) -> x.put(v, 9));
        range("fade", Check::lived, 0, 9, (x, v) -> x.put(0, v));
        range("door", OneRoom::new, 0, 35, (x, v) -> x.put(1, v));
    }

    private static void sleepers() {
        range("hears", Check::lived, 1, 60, (x, v) -> x.sleeper(v, 1, 0, 40, 0));
        range("again", Check::lived, 1, 9, (x, v) -> x.sleeper(1, v, 0, 40, 0));
        range("goes", Check::lived, 0, 39, (x, v) -> x.sleeper(1, 1, v, 40, 0));
        range("goes below up", Check::lived, 0, 16, (x, v) -> x.sleeper(1, 1, v, 17, 0));
        range("goes below up", Check::lived, 0, 0, (x, v) -> x.sleeper(1, 1, v, 1, 0));
        range("up", Check::lived, 1, 40, (x, v) -> x.sleeper(1, 1, 0, v, 0));
        range("up above goes", Check::lived, 18, 40, (x, v) -> x.sleeper(1, 1, 17, v, 0));
        range("up above goes", Check::lived, 40, 40, (x, v) -> x.sleeper(1, 1, 39, v, 0));
        range("snores", Check::lived, 0, 60, (x, v) -> x.sleeper(1, 1, 0, 40, v));
        none("up with goes 40", Check::lived, -2, (x, v) -> x.sleeper(1, 1, 40, v, 0));
        none("up with goes -1", Check::lived, -2, (x, v) -> x.sleeper(1, 1, -1, v, 0));
        Check.bad("goes 40, up 41", Check::lived, x -> x.sleeper(1, 1, 40, 41, 0));
        Check.bad("goes -1, up 0", Check::lived, x -> x.sleeper(1, 1, -1, 0, 0));
        Check.bad("goes as far as can be", Check::lived, x -> x.sleeper(1, 1, Check.MOST, Check.LEAST, 0));
        Check.due("all least", new OneRoom().sleeper(1, 1, 0, 1, 0), 0);
        Check.due("all most", new OneRoom().sleeper(60, 9, 39, 40, 60), 0);
    }

    private static void lying() {
        for (int n = 1; n <= 5; n++) {
            int sleepers = n;
            range("lie with " + n + " sleepers", () -> with(sleepers, 0), 0, n - 1, -10, (x, v) -> x.lie(v, -1));
        }
        for (int n = 1; n <= 6; n++) {
            int beds = n;
            Supplier<OneRoom> house = () -> {
                OneRoom x = with(0, beds);
                x.sleeper(10, 1, 0, 40, 5);
                return x;
            };
            range("lie with " + n + " beds", house, -1, n - 1, -10, (x, v) -> x.lie(0, v));
        }
        none("lie with nobody", () -> with(0, 6), -10, (x, v) -> x.lie(v, -1));
        none("lie with nobody", () -> with(0, 6), -10, (x, v) -> x.lie(v, 0));
        none("lie with no bed", () -> with(5, 0), -10, (x, v) -> x.lie(0, v));
    }

    private static void sounds() {
        for (int kind = 0; kind <= 4; kind++) {
            int k = kind;
            String name = "sound of kind " + kind;
            range(name + ": a", Check::lived, 0, 39, (x, v) -> x.sound(k, 0, v, 39, 7));
            range(name + ": a up to b", Check::lived, 0, 21, (x, v) -> x.sound(k, 0, v, 21, 7));
            range(name + ": a up to b", Check::lived, 0, 0, (x, v) -> x.sound(k, 0, v, 0, 7));
            range(name + ": b", Check::lived, 0, 39, (x, v) -> x.sound(k, 0, 0, v, 7));
            range(name + ": b from a on", Check::lived, 21, 39, (x, v) -> x.sound(k, 0, 21, v, 7));
            range(name + ": b from a on", Check::lived, 39, 39, (x, v) -> x.sound(k, 0, 39, v, 7));
            range(name + ": v", Check::lived, 0, 60, (x, v) -> x.sound(k, 0, 0, 39, v));
            Check.bad(name + ": a and b 40", Check::lived, x -> x.sound(k, 0, 40, 40, 7));
            Check.bad(name + ": a and b -1", Check::lived, x -> x.sound(k, 0, -1, -1, 7));
        }
        range("kind", Check::lived, 0, 4, (x, v) -> x.sound(v, 0, 0, 39, 7));
        range("x of a noise", Check::lived, 0, 35, (x, v) -> x.sound(0, v, 0, 39, 7));
        range("x of an out", Check::lived, 0, 0, (x, v) -> x.sound(4, v, 0, 39, 7));
        for (int kind = 1; kind <= 3; kind++) {
            int k = kind;
            for (int n = 1; n <= 5; n++) {
                int sleepers = n;
                range("x of kind " + kind + " with " + n, () -> with(sleepers, 0), 0, n - 1, (x, v) -> x.sound(k, v, 0, 39, 7));
            }
            none("x of kind " + kind + " with nobody", () -> with(0, 6), -2, (x, v) -> x.sound(k, v, 0, 39, 7));
        }
    }

    // ---- 10, 32 to 36: what there is

    private static void others() {
        range("type", Check::lived, 1, 8, (x, v) -> x.type(-1L, v));
        range("type", OneRoom::new, 1, 8, (x, v) -> x.type(Long.MIN_VALUE, v));
        range("part", Check::lived, 0, 1, (x, v) -> x.part(v));
        range("image", Check::lived, 0, 1, (x, v) -> x.image(v));
        Supplier<OneRoom> kept = () -> {
            OneRoom x = Check.lived();
            x.image(1);
            return x;
        };
        range("from", kept, 0, 1, (x, v) -> x.from(v));
        for (int i : new int[] {-1, 2, Check.LEAST, Check.MOST}) {
            Check.bad("from of a new one " + i, OneRoom::new, x -> x.from(i));
        }
        range("status", Check::lived, 0, 2, -1, (x, v) -> x.status(v));
        range("count", Check::lived, 0, 5, (x, v) -> x.count(v));
        range("count of a new one", OneRoom::new, 0, 5, (x, v) -> x.count(v));
    }

    // ---- 13 to 19: nights

    private static void nights() {
        range("distance: a", OneRoom::new, 0, 35, (x, v) -> x.distance(v, 17));
        range("distance: b", OneRoom::new, 0, 35, (x, v) -> x.distance(17, v));
        range("distance to itself", OneRoom::new, 0, 35, (x, v) -> x.distance(v, v));
        range("distance from a wall", Check::lived, 0, 35, (x, v) -> x.distance(22, v));
        range("heard: from", Check::lived, 0, 35, (x, v) -> x.heard(v, 30, 7, 10));
        range("heard: v", Check::lived, 0, 60, (x, v) -> x.heard(7, v, 7, 10));
        range("heard: v from a wall", Check::lived, 0, 60, (x, v) -> x.heard(22, v, 7, 10));
        range("heard: to", Check::lived, 0, 35, (x, v) -> x.heard(7, 30, v, 10));
        range("heard: slot", Check::lived, 0, 39, (x, v) -> x.heard(7, 30, 7, v));
        range("is: slot", Check::lived, 0, 39, (x, v) -> x.is(1, v));
        range("is: slot in no bed", () -> with(1, 0), 0, 39, (x, v) -> x.is(0, v));
        range("night", Check::lived, 0, 1, (x, v) -> x.night(v));
        range("night of nobody", OneRoom::new, 0, 1, (x, v) -> x.night(v));
        for (int n = 1; n <= 5; n++) {
            for (int beds = 0; beds <= 5; beds += 5) {
                nightsOf(n, n, beds);
            }
        }
        none("slept of nobody", () -> with(0, 6), -2, (x, v) -> x.slept(v));
        none("is of nobody", () -> with(0, 6), -2, (x, v) -> x.is(v, 0));
        none("wakes of nobody", () -> with(0, 6), -10, (x, v) -> x.wakes(v, -1));
        none("woke by nobody", () -> with(0, 6), -2, (x, v) -> x.woke(v, 1));
        none("woke by one alone", () -> with(1, 6), -2, (x, v) -> x.woke(v, 0));
        none("woke one alone", () -> with(1, 6), -2, (x, v) -> x.woke(0, v));
        // i has no most: not so often is no refusal
        for (int i : new int[] {-1, 0, 1, 39, 40, 41, Check.MOST}) {
            Check.asks("wakes i " + i, () -> with(2, 6), x -> x.wakes(0, i), i == -1 ? 0 : -5);
        }
        for (int i : new int[] {-2, -3, -40, Check.LEAST}) {
            Check.refused("wakes i " + i, () -> with(2, 6), x -> x.wakes(0, i), -2, -10);
        }
    }

    private static void nightsOf(int n, int sleepers, int beds) {
        Supplier<OneRoom> house = () -> with(sleepers, beds);
        String of = " with " + n + " in " + beds + " beds";
        range("slept" + of, house, 0, n - 1, (x, v) -> x.slept(v));
        range("is" + of, house, 0, n - 1, (x, v) -> x.is(v, 39));
        range("wakes" + of, house, 0, n - 1, -10, (x, v) -> x.wakes(v, -1));
        range("wakes" + of, house, 0, n - 1, -10, (x, v) -> x.wakes(v, 0));
        if (n > 1) {
            range("woke: a" + of, house, 0, n - 2, (x, v) -> x.woke(v, sleepers - 1));
            range("woke: a" + of, house, 1, n - 1, (x, v) -> x.woke(v, 0));
            range("woke: b" + of, house, 0, n - 2, (x, v) -> x.woke(sleepers - 1, v));
            range("woke: b" + of, house, 1, n - 1, (x, v) -> x.woke(0, v));
        }
        for (int s = 0; s < n; s++) {
            int who = s;
            Check.bad("woke: alike " + s + of, house, x -> x.woke(who, who));
        }
    }

    // ---- 20 to 31: what is best

    private static void ways() {
        range("way: a", OneRoom::new, 0, 35, (x, v) -> x.way(v, 17, 0));
        range("way: b", OneRoom::new, 0, 35, (x, v) -> x.way(17, v, 0));
        range("way: what", Check::lived, 0, 2, (x, v) -> x.way(0, 35, v));
        range("way to itself", OneRoom::new, 0, 35, (x, v) -> x.way(v, v, 1));
        range("way to itself: what", Check::lived, 0, 2, (x, v) -> x.way(9, 9, v));
        for (int what = 0; what <= 2; what++) {
            int w = what;
            Check.bad("way from a wall", Check::lived, x -> x.way(22, 0, w));
            Check.bad("way to a wall", Check::lived, x -> x.way(0, 22, w));
            Check.bad("way within a wall", Check::lived, x -> x.way(22, 22, w));
        }
    }

    private static void best() {
        for (int n = 1; n <= 5; n++) {
            int sleepers = n;
            String of = " with " + n;
            Supplier<OneRoom> house = () -> with(sleepers, 6);
            range("rule: sleeper" + of, house, 0, n - 1, (x, v) -> x.rule(v, 0, false));
            range("best" + of, house, -1, n - 1, -10, (x, v) -> x.best(false, v));
            range("best with rules" + of, house, -1, n - 1, -10, (x, v) -> x.best(true, v));
            range("order" + of, house, -1, n - 1, (x, v) -> x.order(v));
            range("wax" + of, house, 0, n - 1, -100, (x, v) -> x.worth(0, v));
            range("ball" + of, house, 0, n - 1, -100, (x, v) -> x.worth(3, v));
            range("temper: sleeper" + of, house, 0, n - 1, (x, v) -> x.temper(v, 3));
            range("tent: sleeper" + of, house, 0, n - 1, (x, v) -> x.tent(v, 3));
        }
        for (int n = 1; n <= 6; n++) {
            int beds = n;
            range("rule: bed of " + n, () -> with(1, beds), 0, n - 1, (x, v) -> x.rule(0, v, true));
        }
        none("rule for nobody", () -> with(0, 6), -2, (x, v) -> x.rule(v, 0, true));
        none("rule with no bed", () -> with(5, 0), -2, (x, v) -> x.rule(0, v, false));
        Check.bad("rule: no bed is none", () -> with(5, 6), x -> x.rule(0, -1, false));
        none("best of nobody", () -> with(0, 6), -10, (x, v) -> x.best(false, v));
        none("best of nobody", () -> with(0, 0), -10, (x, v) -> x.best(true, v));
        none("order of nobody", () -> with(0, 6), -2, (x, v) -> x.order(v));
        none("wax for nobody", () -> with(0, 6), -100, (x, v) -> x.worth(0, v));
        none("ball for nobody", () -> with(0, 6), -100, (x, v) -> x.worth(3, v));
        none("temper of nobody", () -> with(0, 6), -2, (x, v) -> x.temper(v, 1));
        none("tent of nobody", () -> with(0, 6), -2, (x, v) -> x.tent(v, 1));
        range("thing", Check::lived, 0, 3, -100, (x, v) -> x.worth(v, 0));
        range("fan", Check::lived, 0, 0, -100, (x, v) -> x.worth(1, v));
        range("board", Check::lived, 0, 35, -100, (x, v) -> x.worth(2, v));
        range("fan of nobody", OneRoom::new, 0, 0, -100, (x, v) -> x.worth(1, v));
        range("board of nobody", OneRoom::new, 0, 35, -100, (x, v) -> x.worth(2, v));
        range("temper: n", Check::lived, 0, 14, (x, v) -> x.temper(1, v));
        range("quarrel", Check::lived, 1, 999, (x, v) -> x.quarrel(v));
        range("quarrel of nobody", OneRoom::new, 1, 999, (x, v) -> x.quarrel(v));
        range("tent: a", Check::lived, 0, 10, (x, v) -> x.tent(1, v));
    }

    public static void main(String[] args) {
        cells();
        sleepers();
        lying();
        sounds();
        others();
        nights();
        ways();
        best();
        Check.end("ranges");
    }
}
