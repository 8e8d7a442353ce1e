import java.math.BigInteger;
import java.util.function.Consumer;
import java.util.function.Supplier;

/** Which refusal comes first, what STATUS counts, what IMAGES keep, and the wrap-around of digest. */
public final class EdgeThere {
    // ---- the first of: BAD, NO, FULL

    private static OneRoom two() {
        return Check.house("bed 7;bed 8;wall 20;sleeper 10 1 0 40 0;sleeper 10 1 0 40 0;lie 0 0;lie 1 1;");
    }

    private static void firstOf() {
        Supplier<OneRoom> two = EdgeThere::two;
        // there is no wall already, and a bed or the door stands there: BAD, not NO
        Check.bad("no wall at a bed", two, x -> x.wall(7, false));
        Check.bad("wall at a bed", two, x -> x.wall(7, true));
        Check.bad("no wall at the last bed", two, x -> x.wall(8, false));
        Check.bad("no wall at the door", two, x -> x.wall(0, false));
        Check.bad("wall at the door", two, x -> x.wall(0, true));
        Check.no("wall that is", two, x -> x.wall(20, true));
        Check.no("no wall that is", two, x -> x.wall(21, false));
        Supplier<OneRoom> moved = () -> {
            OneRoom x = two();
            x.put(1, 35);
            return x;
        };
        Check.bad("the new door", moved, x -> x.wall(35, false));
        Check.no("the old door", moved, x -> x.wall(0, false));
        Check.due("the old door", moved.get().wall(0, true), 1);
        Supplier<OneRoom> doorAtBed = () -> {
            OneRoom x = two();
            x.put(1, 7);
            return x;
        };
        Check.bad("door and bed", doorAtBed, x -> x.wall(7, true));
        Check.bad("door in a wall", two, x -> x.put(1, 20));
        Check.bad("bed in a wall", two, x -> x.bed(20));
        Check.bad("bed at a bed", two, x -> x.bed(7));
        Check.due("bed at the door", two().bed(0), 2);
        Check.due("door as it was", two().put(1, 0), 0);
        Check.due("door at a bed", two().put(1, 7), 0);
        Check.due("the door that was", moved.get().put(1, 7), 35);
        for (int bed = 0; bed < 2; bed++) {
            int b = bed;
            Check.refused("another lies there", two, x -> x.lie(1 - b, b), -3, -20);
            Check.refused("nobody, where one lies", two, x -> x.lie(2, b), -2, -10);
            Check.refused("nobody, where one lies", two, x -> x.lie(-1, b), -2, -10);
            Check.asks("as she lies", two, x -> x.lie(b, b), b);
        }
        Check.refused("no such bed", two, x -> x.lie(0, 2), -2, -10);
        Check.due("in none", two().lie(0, -1), 0);
        Check.due("no two in one but in none", two().lie(0, -1) + two().lie(1, -1), 1);
    }

    // ---- STATUS

    private static void status() {
        OneRoom x = two();
        int bad = 0, no = 0;
        for (int i = 0; i < 40; i++) {
            Check.due("bad", x.bed(36 + i), -2);
            Check.due("counted", x.status(0), ++bad);
            Check.due("no", x.still(), -3);
            Check.due("counted", x.status(1), ++no);
        }
        Check.due("lie", x.lie(0, 7), -10);
        Check.due("wakes", x.wakes(7, 0), -10);
        Check.due("best", x.best(true, 7), -10);
        Check.due("worth", x.worth(7, 0), -100);
        Check.due("status", x.status(3), -1);
        Check.due("status", x.status(-1), -1);
        Check.due("bad by other answers", x.status(0), bad + 6);
        Check.due("lie", x.lie(0, 1), -20);
        x.sleeper(1, 1, 0, 1, 0);
        Check.due("best", x.best(true, 0), -20);
        Check.due("no by other answers", x.status(1), no + 2);
        Check.due("full", x.status(2), 0);
        // answers below 0 that are no refusals
        long[] was = Check.state(x);
        Check.due("wakes", x.wakes(0, 0), -5);
        Check.due("lie", x.lie(2, -1), -1);
        Check.due("distance", x.distance(0, 20), -1);
        Check.due("screw", x.screw(), -1);
        Check.due("quarrel", x.quarrel(999), -1);
        Check.due("way", x.way(0, 0, 2), -1);
        Check.write(x, "wall");
        Check.due("house", x.house(), -14);
        Check.write(x, "wall 36;");
        Check.due("house", x.house(), -1000);
        Check.write(x, "bed 1;bed 1;");
        Check.due("house", x.house(), -1001);
        x.clear();
        Check.row("nothing else, counted nowhere", Check.state(x), was);
        // an ITEM that is refused as FULL
        Check.write(x, "bed 1;bed 2;bed 3;bed 4;bed 5;bed 6;bed 7;");
        Check.due("house", x.house(), -1006);
        Check.due("full", x.status(2), 0);
    }

    // ---- IMAGES

    /** A change behind which an image is gone on from: all is as it was kept. */
    private static void kept(String what, Consumer<OneRoom> change) {
        for (int i = 0; i < 2; i++) {
            OneRoom x = Check.lived(), y = Check.lived();
            int other = 1 - i;
            Check.due(what + ": kept", x.image(i), 1);
            y.image(i);
            change.accept(x);
            Check.due(what + ": another", x.digest() == y.digest() ? 1 : 0, 0);
            x.image(other);
            long changed = x.digest();
            Check.due(what + ": from", x.from(i), 1);
            Check.due(what + ": as it was kept", x.digest(), y.digest());
            for (int s = 0; s < 3; s++) {
                Check.due(what + ": slept", x.slept(s), y.slept(s));
                Check.due(what + ": best", x.best(true, s), y.best(true, s));
            }
            change.accept(x);
            Check.due(what + ": from it on", x.digest(), changed);
            Check.due(what + ": from once more", x.from(i), 1);
            Check.due(what + ": it stays as it was kept", x.digest(), y.digest());
            Check.due(what + ": from the other", x.from(other), 1);
            Check.due(what + ": as it was then", x.digest(), changed);
        }
    }

    private static void images() {
        kept("wall", x -> x.wall(35, true));
        kept("no wall", x -> x.wall(22, false));
        kept("a wall for another", x -> {
            x.wall(22, false);
            x.wall(2, true);
        });
        kept("creak of 0", x -> x.board(0, 1));
        kept("creak of 35", x -> x.board(35, 1));
        kept("creak", x -> x.board(15, 0));
        kept("fade", x -> x.put(0, 9));
        kept("door", x -> x.put(1, 35));
        kept("bed", x -> x.bed(30));
        kept("sleeper", x -> x.sleeper(1, 1, 0, 1, 0));
        kept("lies", x -> x.lie(0, -1));
        kept("lies", x -> x.lie(1, 2));
        kept("sound", x -> x.sound(4, 0, 0, 39, 1));
        kept("one sound less", OneRoom::still);
        kept("rule", x -> x.rule(1, 1, true));
        kept("no rules", OneRoom::free);
        kept("another sound", x -> {
            x.still();
            x.sound(3, 1, 7, 9, 40);
        });
        int[][] rules = {{1, 1, 1}, {0, 2, 1}, {0, 1, 0}};
        for (int[] r : rules) {
            kept("other rules", x -> {
                x.free();
                x.rule(r[0], r[1], r[2] == 1);
                x.rule(2, 3, false);
            });
        }
        String[] houses = {"", "fade 3;door 14;bed 16;bed 21;bed 34;bed 2;sleeper 11 3 1 39 31;sleeper 7 2 5 31 1;"
                + "sleeper 21 4 3 39 13;lie 0 3;lie 1 1;noise 34 4 8 49;turned 0 5 19 39;cried 2 7 11 4;"};
        for (String s : houses) {
            kept("told anew", x -> {
                Check.write(x, s);
                x.house();
                Check.write(x, "bed 3;wall 9;fade 1;");
                for (int i = x.count(2); i < 3; i++) {
                    x.sleeper(1, 1, 0, 1, 0);
                }
            });
        }
    }

    /** THE TEXT, THE FRACTION and STATUS go on as they are; the images are not in one another. */
    private static void notKept() {
        OneRoom x = Check.lived();
        Check.due("text", x.clear(), 20);
        x.image(1);
        Check.write(x, "bed 1;");
        x.tent(1, 10);
        Check.due("above", x.part(0), 25);
        x.bed(-1);
        x.bed(-1);
        x.rooms();
        long[] was = Check.state(x);
        Check.due("from", x.from(1), 1);
        Check.due("the text stays", x.count(5), 6);
        Check.due("above stays", x.part(0), 25);
        Check.due("below stays", x.part(1), 1);
        Check.row("all alike", Check.state(x), was);
        Check.due("from", x.from(0), 1);
        Check.due("the text stays", x.count(5), 6);
        Check.due("above stays", x.part(0), 25);
        Check.due("bad stays", x.status(0), 2);
        Check.due("no rules in it", x.count(4), 0);
        Check.due("the other is still there", x.from(1), 1);
        Check.due("two rules in it", x.count(4), 2);
        Check.due("the text tells", x.house(), 1);
        x.from(1);
        Check.due("from, behind a house", x.count(4), 2);
        x.image(0);
        x.free();
        x.from(0);
        Check.due("an image anew", x.count(4), 2);
        // none was kept, though the other was
        for (int i = 0; i < 2; i++) {
            int other = 1 - i;
            OneRoom y = new OneRoom();
            y.image(i);
            Check.due("none was kept", y.from(other), -3);
            Check.due("no", y.status(1), 1);
            Check.due("one was", y.from(i), 1);
            y.from(i);
            Check.due("from it keeps none", y.from(other), -3);
        }
    }

    /** Six beds, five sleepers, eight sounds, four rules: all of them are kept. */
    private static void fullImage() {
        String beds = "bed 0;bed 1;bed 2;bed 3;bed 4;bed 5;", sleeper = "sleeper 1 2 3 4 5;", sound = "noise 1 2 3 4;";
        OneRoom x = Check.house(beds + sleeper.repeat(5) + sound.repeat(8));
        for (int i = 0; i < 5; i++) {
            x.lie(i, i + 1);
        }
        for (int i = 0; i < 4; i++) {
            x.rule(i, 5 - i, true);
        }
        long full = x.digest();
        x.image(0);
        for (String other : new String[] {"", beds.replace(" ", " 1") + "sleeper 11 3 5 39 6;".repeat(5) + "noise 5 6 7 8;".repeat(8)}) {
            Check.due("another house is told", Check.told(x, other) < 0 ? 1 : 0, 0);
            x.clear();
            for (int i = 0; i < Math.min(4, x.count(2)); i++) {
                x.rule(4 - i, i, false);
                x.lie(4 - i, i);
            }
            Check.due("another", x.digest() == full ? 1 : 0, 0);
            x.image(1);
            long changed = x.digest();
            x.from(0);
            Check.due("the full one as it was kept", x.digest(), full);
            Check.due("the last lies", x.lie(4, 5), 5);
            Check.due("the last bed", x.bed(5), -2);
            x.from(1);
            Check.due("the other as it was kept", x.digest(), changed);
        }
    }

    /** All that can be asked of a house and changes nothing. */
    private static long[] askedOfCells(OneRoom x) {
        long[] row = new long[5 * 36];
        int n = 0;
        for (int c = 0; c < 36; c++) {
            row[n++] = x.distance(c, 7);
            row[n++] = x.heard(7, 40, c, c);
            row[n++] = x.way(14, c, 0);
            row[n++] = x.way(c, 14, 1);
            row[n++] = x.worth(2, c);
        }
        return row;
    }

    private static long[] askedOfNights(OneRoom x) {
        java.util.List<Long> all = new java.util.ArrayList<>();
        for (int s = -1; s < 5; s++) {
            all.add((long) x.slept(s));
            all.add((long) x.is(s, 11));
            all.add((long) x.wakes(s, -1));
            all.add((long) x.woke(s, 1));
            all.add((long) x.best(true, s));
            all.add((long) x.best(false, s));
            all.add((long) x.order(s));
            all.add((long) x.worth(0, s));
            all.add((long) x.worth(3, s));
            all.add((long) x.temper(s, 14));
        }
        for (int i = 0; i < 5; i++) {
            all.add((long) x.night(i));
            all.add((long) x.count(i));
            all.add((long) x.quarrel(1 + 40 * i));
        }
        all.add((long) x.worth(1, 0));
        all.add((long) x.cost());
        all.add((long) x.rooms());
        all.add((long) x.screw());
        long[] row = new long[all.size()];
        for (int i = 0; i < row.length; i++) {
            row[i] = all.get(i);
        }
        return row;
    }

    /** Apart, as an object is asked at most 512 calls. */
    private static long[] asked(OneRoom x, boolean ofCells) {
        return ofCells ? askedOfCells(x) : askedOfNights(x);
    }

    /** What was tried and was refused, or was asked of another house, leaves nothing in any answer. */
    private static void nothingLeft() {
        String[] tried = {"wall 1;wall 2;wall 8;wall 15;bed 30;sleeper 1 1 0 40 60;sleeper 1 1 0 40 60;lie 0 0;noise 30 0 39 60;out 0 0 39 9;"
                + "fade 9;door 35;board 7 33;wall 30;", "wall 8;wall 0;", "sleeper 1 1 0 1 0;lie 0 0;", "fade 0;fade 10;",
            "wall 7;wall 13;wall 14;", "bed 7;bed 14;wall 8;wall 15;wall 20;wall 13;sleeper 1 1 0 40 9;lie 1 1;"};
        for (int k = 0; k < tried.length; k++) {
            for (int i = 0; i < 4; i++) {
                boolean ofCells = i >= 2;
                OneRoom x = i % 2 == 0 ? Check.lived() : two(), y = i % 2 == 0 ? Check.lived() : two();
                if (k == 4) {
                    // this one is let in, and gone back from
                    x.image(1);
                }
                int got = Check.told(x, tried[k]);
                Check.due("refused, or let in", got < -999 ? 0 : 1, k == 4 ? 1 : 0);
                if (k == 4) {
                    x.way(14, 35, 0);
                    x.order(0);
                    x.best(true, 0);
                    x.screw();
                    x.from(1);
                }
                Check.row("nothing is left of " + tried[k], asked(x, ofCells), asked(y, ofCells));
                Check.row("nor of what was asked", asked(x, ofCells), asked(y, ofCells));
            }
        }
        OneRoom x = Check.lived(), y = Check.lived();
        Check.write(x, "wall 1;wall 0;");
        Check.due("refused", x.house(), -1001);
        for (int c = 0; c < 36; c++) {
            Check.due("heard behind a house that is refused", x.heard(c, 50, 2, 39), y.heard(c, 50, 2, 39));
        }
        x = ringing();
        Check.write(x, "sleeper 1 1 0 40 0;lie 0 0;");
        Check.due("refused", x.house(), -1001);
        Check.due("rooms behind a house that is refused", x.rooms(), 4);
    }

    /** Sleeper 2 wakes the other two. */
    private static OneRoom ringing() {
        return Check.house("fade 0;bed 1;bed 2;bed 3;sleeper 1 1 0 40 0;sleeper 1 1 0 40 0;sleeper 60 1 0 40 0;lie 0 0;lie 1 1;lie 2 2;"
                + "rung 2 7 7 60;");
    }

    // ---- digest

    private static long digest(int... row) {
        BigInteger h = BigInteger.valueOf(587);
        for (int v : row) {
            h = h.multiply(BigInteger.valueOf(31)).add(BigInteger.valueOf(v));
        }
        Check.due("h goes far beyond a long", h.bitLength() > 64 ? 1 : 0, 1);
        return h.longValue();
    }

    /** The numbers of counts, walls and creaks (those given), and the rest. */
    private static int[] row(int[] counts, int[] walls, int[][] creaks, int... rest) {
        int[] row = new int[6 + 72 + rest.length];
        System.arraycopy(counts, 0, row, 0, 6);
        for (int c : walls) {
            row[6 + 2 * c] = 1;
        }
        for (int[] creak : creaks) {
            row[7 + 2 * creak[0]] = creak[1];
        }
        System.arraycopy(rest, 0, row, 78, rest.length);
        return row;
    }

    private static void digests() {
        int[] none = {};
        int[][] still = {};
        OneRoom x = new OneRoom();
        Check.due("a new one", x.digest(), digest(row(new int[6], none, still, 2, 0, 0, 1)));
        x.wall(35, true);
        Check.due("a wall", x.digest(), digest(row(new int[] {1, 0, 0, 0, 0, 0}, new int[] {35}, still, 2, 0, 0, 1)));
        x.board(0, 40);
        x.board(35, 1);
        int[][] creaks = {{0, 40}, {35, 1}};
        Check.due("creaks", x.digest(), digest(row(new int[] {1, 0, 0, 0, 0, 0}, new int[] {35}, creaks, 2, 0, 0, 1)));
        x.put(0, 9);
        x.put(1, 34);
        Check.due("fade, door", x.digest(), digest(row(new int[] {1, 0, 0, 0, 0, 0}, new int[] {35}, creaks, 9, 34, 0, 1)));
        x.bed(34);
        x.bed(0);
        Check.due("beds", x.digest(), digest(row(new int[] {1, 2, 0, 0, 0, 0}, new int[] {35}, creaks, 9, 34, 34, 0, 0, 1)));
        x.sleeper(60, 9, 39, 40, 60);
        Check.due("in no bed", x.digest(), digest(row(new int[] {1, 2, 1, 0, 0, 0}, new int[] {35}, creaks, 9, 34, 34, 0,
                60, 9, 39, 40, 60, -1, 0, 1)));
        x.lie(0, 1);
        x.sound(4, 0, 1, 2, 3);
        x.rule(0, 1, true);
        x.rule(0, 0, false);
        x.type(-1, 8);
        Check.due("one of each", x.digest(), digest(row(new int[] {1, 2, 1, 1, 2, 8}, new int[] {35}, creaks, 9, 34, 34, 0,
                60, 9, 39, 40, 60, 1, 4, 0, 1, 2, 3, 0, 1, 1, 0, 0, 0, 0, 1)));
        x.sleeper(1, 2, 3, 34, 5);
        x.tent(1, 3);
        Check.due("with a fraction", x.digest(), digest(row(new int[] {1, 2, 2, 1, 2, 8}, new int[] {35}, creaks, 9, 34, 34, 0,
                60, 9, 39, 40, 60, 1, 1, 2, 3, 34, 5, -1, 4, 0, 1, 2, 3, 0, 1, 1, 0, 0, 0, 87, 10)));
        x.image(0);
        x.status(9);
        x.clear();
        x.type(7, 8);
        Check.due("neither images, status nor what the text is", x.digest(), digest(row(new int[] {1, 2, 2, 1, 2, 8},
                new int[] {35}, creaks, 9, 34, 34, 0, 60, 9, 39, 40, 60, 1, 1, 2, 3, 34, 5, -1, 4, 0, 1, 2, 3, 0, 1, 1, 0, 0, 0,
                87, 10)));
    }

    /** With all of it full h wraps around most often; and answers below 0 come, too. */
    private static void fullDigest() {
        OneRoom x = new OneRoom();
        int[] row = new int[78 + 2 + 6 + 30 + 40 + 12 + 2];
        int at = 0;
        for (int n : new int[] {29, 6, 5, 8, 4, 300}) {
            row[at++] = n;
        }
        for (int c = 0; c < 36; c++) {
            row[at++] = c > 6 ? 1 : 0;
            row[at++] = 40 - c;
            x.board(c, 40 - c);
        }
        row[at++] = x.put(0, 7) + 5;
        row[at++] = x.put(1, 6) + 6;
        for (int i = 0; i < 6; i++) {
            row[at++] = 5 - i;
            x.bed(5 - i);
        }
        for (int c = 7; c < 36; c++) {
            x.wall(c, true);
        }
        for (int i = 0; i < 5; i++) {
            for (int v : new int[] {60 - i, 9 - i, 39 - i, 40 - i, 60 - i, i}) {
                row[at++] = v;
            }
            x.sleeper(60 - i, 9 - i, 39 - i, 40 - i, 60 - i);
            x.lie(i, i);
        }
        for (int i = 0; i < 8; i++) {
            for (int v : new int[] {i % 5, i % 5 == 4 ? 0 : 4, i, 39 - i, 60 - i}) {
                row[at++] = v;
            }
            x.sound(i % 5, i % 5 == 4 ? 0 : 4, i, 39 - i, 60 - i);
        }
        for (int i = 0; i < 4; i++) {
            for (int v : new int[] {4 - i, 5 - i, i % 2}) {
                row[at++] = v;
            }
            x.rule(4 - i, 5 - i, i % 2 == 1);
        }
        for (int i = 0; i < 100; i++) {
            x.type(-1L, 3);
        }
        row[at] = 0;
        row[at + 1] = 1;
        Check.due("all of it full", x.digest(), digest(row));
        boolean above = false, below = false;
        for (int i = 0; i < 30; i++) {
            x.put(0, i % 10);
            x.board(0, i);
            above |= x.digest() > 0;
            below |= x.digest() < 0;
        }
        Check.due("h comes below 0 and above", above && below ? 1 : 0, 1);
    }

    public static void main(String[] args) {
        firstOf();
        status();
        images();
        notKept();
        fullImage();
        nothingLeft();
        digests();
        fullDigest();
        Check.end("what there is");
    }
}
