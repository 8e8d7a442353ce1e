/** What is best: the ways least heard, rules and beds, whose goes, things, the screw, rooms, temper, a quarrel, the tent. */
public final class EdgeBest {
    // ---- LEAST HEARD

    private static void way(String what, OneRoom x, int a, int b, int heard, int steps, int second) {
        Check.due(what + ": heard", x.way(a, b, 0), heard);
        Check.due(what + ": steps", x.way(a, b, 1), steps);
        Check.due(what + ": the second cell", x.way(a, b, 2), second);
    }

    private static void oneCell() {
        OneRoom x = Check.house("fade 0;bed 7;sleeper 1 1 0 40 0;lie 0 0;board 7 40;board 0 40;");
        for (int c = 0; c < 36; c++) {
            way("one cell " + c, x, c, c, 0, 0, -1);
        }
        // all about it has walls
        x = Check.house("wall 1;wall 6;");
        way("one cell that is shut in", x, 0, 0, 0, 0, -1);
        for (int what = 0; what <= 2; what++) {
            int w = what;
            Check.no("not reached", () -> Check.house("wall 1;wall 6;bed 0;sleeper 1 1 0 40 0;lie 0 0;"), y -> y.way(0, 35, w));
            Check.no("not reached the other way", () -> Check.house("wall 1;wall 6;"), y -> y.way(7, 0, w));
            Check.bad("a wall ahead of not reached", () -> Check.house("wall 1;wall 6;"), y -> y.way(0, 1, w));
            Check.bad("a wall ahead of not reached", () -> Check.house("wall 1;wall 6;"), y -> y.way(6, 0, w));
        }
        Check.bad("what 3 ahead of not reached", () -> Check.house("wall 1;wall 6;"), y -> y.way(0, 35, 3));
        Check.bad("what -1 ahead of not reached", () -> Check.house("wall 1;wall 6;"), y -> y.way(0, 35, -1));
    }

    private static void leastHeard() {
        // the last cell is one of its cells, the first is none
        OneRoom x = Check.house("bed 0;sleeper 1 1 0 40 0;lie 0 0;board 0 40;");
        way("the most that can be heard", x, 1, 0, 40, 1, 0);
        way("away from it", x, 0, 1, 0, 1, 1);
        x.board(1, 40);
        way("one off: 38", x, 0, 1, 38, 1, 1);
        way("back: 40", x, 1, 0, 40, 1, 0);
        x.put(0, 9);
        way("fade 9: 31", x, 0, 1, 31, 1, 1);
        x.board(1, 9);
        way("just 0", x, 0, 1, 0, 1, 1);
        x.board(1, 10);
        way("just 1", x, 0, 1, 1, 1, 1);
        x.lie(0, -1);
        way("nobody lies there", x, 0, 1, 0, 1, 1);
        x.lie(0, 0);
        x.sound(4, 0, 0, 39, 60);
        way("cover is none", x, 0, 1, 1, 1, 1);
        // she need not be in, nor ever asleep
        x = Check.house("bed 0;sleeper 1 9 39 40 0;lie 0 0;board 1 40;");
        way("she comes late", x, 2, 1, 38, 1, 1);
        // any bed in which somebody lies: the greatest of them
        x = Check.house("fade 9;bed 0;bed 3;sleeper 1 1 0 40 0;sleeper 60 1 0 40 0;lie 0 0;board 2 40;");
        way("two off: 22", x, 8, 2, 22, 1, 2);
        x.lie(1, 1);
        way("one off another: 31", x, 8, 2, 31, 1, 2);
        x.lie(0, -1);
        way("the other alone", x, 8, 2, 31, 1, 2);
        x.lie(1, -1);
        way("none", x, 8, 2, 0, 1, 2);
        // the greatest of its cells, not all together
        x = Check.house("fade 0;bed 0;sleeper 1 1 0 40 0;lie 0 0;board 1 7;board 2 5;board 3 7;wall 6;wall 7;wall 8;wall 9;");
        way("7", x, 0, 4, 7, 4, 1);
    }

    private static void fewestSteps() {
        OneRoom x = Check.house("fade 0;bed 35;sleeper 1 1 0 40 0;lie 0 0;board 1 3;");
        way("round about 1", x, 0, 2, 0, 4, 6);
        x.board(6, 3);
        way("all ways are heard: the fewest steps", x, 0, 2, 3, 2, 1);
        x.board(6, 2);
        way("2 is less than 3", x, 0, 2, 2, 4, 6);
        x.board(8, 3);
        way("a longer way still", x, 0, 2, 2, 8, 6);
        x.wall(9, true);
        way("a wall in it", x, 0, 2, 2, 10, 6);
        x.board(35, 40);
        way("35 is left aside", x, 0, 2, 2, 10, 6);
        way("but to it: 40, the fewest steps", x, 34, 35, 40, 1, 35);
        way("40 leaves all ways open: straight on", x, 0, 35, 40, 10, 1);
        // of like ones the first by up, right, down, left
        x = new OneRoom();
        way("right ahead of down", x, 7, 14, 0, 2, 8);
        way("down ahead of left", x, 7, 12, 0, 2, 13);
        way("up ahead of left", x, 14, 7, 0, 2, 8);
        way("up ahead of right", x, 14, 9, 0, 2, 8);
        way("up", x, 14, 2, 0, 2, 8);
        way("left", x, 14, 12, 0, 2, 13);
    }

    /** Cells 0 and 35 are like all others, and nothing of an earlier way is left. */
    private static void cornersOfWays() {
        OneRoom x = Check.house("door 14;fade 0;bed 35;sleeper 1 1 0 40 0;lie 0 0;wall 7;");
        way("by 0", x, 1, 6, 0, 2, 0);
        x.board(0, 5);
        way("0 creaks: round about", x, 1, 6, 0, 6, 2);
        x.board(0, 0);
        way("0 does not creak", x, 1, 6, 0, 2, 0);
        x.wall(0, true);
        way("0 has a wall", x, 1, 6, 0, 6, 2);
        x.wall(0, false);
        way("0 has none", x, 1, 6, 0, 2, 0);
        x = Check.house("door 14;fade 0;bed 0;sleeper 1 1 0 40 0;lie 0 0;wall 28;");
        way("by 35", x, 34, 29, 0, 2, 35);
        x.board(35, 5);
        way("35 creaks: round about", x, 34, 29, 0, 6, 33);
        x.lie(0, -1);
        way("nobody hears it", x, 34, 29, 0, 2, 35);
        x.lie(0, 0);
        way("she hears it", x, 34, 29, 0, 6, 33);
        x.board(35, 0);
        x.wall(35, true);
        way("35 has a wall", x, 34, 29, 0, 6, 33);
        x.house();
        way("told anew", x, 34, 29, 0, 2, 28);
    }

    // ---- RULES, BEST, COST

    private static OneRoom beds(int beds, int sleepers) {
        OneRoom x = new OneRoom();
        for (int i = 0; i < beds; i++) {
            x.bed(i);
        }
        for (int i = 0; i < sleepers; i++) {
            x.sleeper(60, 1, i, 40, 0);
        }
        return x;
    }

    private static void best(String what, OneRoom x, boolean rules, int worst, int... row) {
        long[] was = Check.state(x);
        Check.due(what + ": worst", x.best(rules, -1), worst);
        for (int i = 0; i < row.length; i++) {
            Check.due(what + ": bed of " + i, x.best(rules, i), row[i]);
        }
        Check.row(what + ": changes nothing", Check.state(x), was);
    }

    private static void bestOf() {
        for (int beds = 0; beds <= 6; beds++) {
            for (int sleepers = 0; sleepers <= 5; sleepers++) {
                int b = beds, s = sleepers;
                String what = sleepers + " in " + beds;
                if (sleepers > beds) {
                    Check.refused(what, () -> beds(b, s), x -> x.best(false, -1), -3, -20);
                    Check.refused(what, () -> beds(b, s), x -> x.best(true, -1), -3, -20);
                    Check.refused(what, () -> beds(b, s), x -> x.best(false, s - 1), -3, -20);
                    Check.refused(what + ": bad ahead of no", () -> beds(b, s), x -> x.best(false, s), -2, -10);
                    Check.refused(what + ": bad ahead of no", () -> beds(b, s), x -> x.best(true, -2), -2, -10);
                    Check.no(what, () -> beds(b, s), x -> x.cost());
                } else {
                    int[] first = {0, 1, 2, 3, 4};
                    best(what, beds(b, s), false, s == 0 ? 0 : 41 - s, java.util.Arrays.copyOf(first, s));
                    best(what, beds(b, s), true, s == 0 ? 0 : 41 - s, java.util.Arrays.copyOf(first, s));
                    Check.due(what + ": cost", beds(b, s).cost(), 0);
                }
            }
        }
        // the last row of all: each bed but the last ones is loud
        OneRoom x = Check.house("fade 9;bed 0;bed 35;sleeper 10 1 0 40 0;noise 0 0 39 60;");
        best("the last bed", x, false, 40, 1);
        x.put(0, 0);
        best("both alike: the first", x, false, 0, 0);
    }

    private static void rules() {
        OneRoom x = beds(6, 5);
        x.rule(4, 0, true);
        best("has to", x, true, 36, 1, 2, 3, 4, 0);
        x.rule(0, 5, true);
        best("two have to", x, true, 36, 5, 1, 2, 3, 0);
        x.rule(1, 1, false);
        best("and one must not", x, true, 36, 5, 2, 1, 3, 0);
        x.rule(1, 2, false);
        best("four of them", x, true, 36, 5, 3, 1, 2, 0);
        best("without", x, false, 36, 0, 1, 2, 3, 4);
        Check.due("cost", x.cost(), 0);
        Check.due("gone", x.free(), 4);
        best("with none", x, true, 36, 0, 1, 2, 3, 4);
        // the last of all rows: 5 4 3 2 and then 1, by a must not
        x.rule(0, 5, true);
        x.rule(1, 4, true);
        x.rule(2, 3, true);
        x.rule(4, 0, false);
        best("all but the last", x, true, 36, 5, 4, 3, 0, 1);
        x.free();
        x.rule(0, 0, true);
        x.rule(0, 0, true);
        best("the same twice", x, true, 36, 0, 1, 2, 3, 4);
        x.rule(1, 0, true);
        Check.due("two have to lie in one", x.best(true, -1), -20);
        Check.due("no cost", x.cost(), -3);
        best("without", x, false, 36, 0, 1, 2, 3, 4);
        x = beds(2, 2);
        x.rule(1, 1, false);
        best("the other row", x, true, 39, 1, 0);
        x.rule(0, 1, false);
        Check.due("none", x.best(true, 0), -20);
        Check.due("bad ahead of none", x.best(true, 2), -10);
        Check.due("none", x.best(true, -1), -20);
        Check.due("cost: none", x.cost(), -3);
        Check.row("counted", new long[] {x.status(0), x.status(1), x.status(2)}, 1, 3, 0);
        x = beds(1, 1);
        x.rule(0, 0, false);
        Check.due("one bed that must not be", x.best(true, -1), -20);
        best("one bed", x, false, 40, 0);
        x = beds(2, 1);
        x.rule(0, 1, true);
        x.rule(0, 1, false);
        Check.due("has to and must not", x.best(true, -1), -20);
    }

    /** Where they lie now, in no bed too, is nothing to it; the greatest WORST, then GOOD, then the first row. */
    private static void worstThenGood() {
        OneRoom x = beds(3, 2);
        x.lie(0, 2);
        x.lie(1, 0);
        best("not where they lie", x, false, 39, 0, 1);
        Check.due("she lies where she lay", x.lie(0, 2), 2);
        Check.due("she too", x.lie(1, 0), 0);
        // bed 0 at the noise: who lies there sleeps from slot 10 on
        x = Check.house("fade 9;bed 0;bed 35;noise 0 0 9 60;sleeper 10 1 0 40 0;sleeper 10 1 0 40 0;");
        best("alike: the first row", x, false, 30, 0, 1);
        x = Check.house("fade 9;bed 0;bed 35;noise 0 0 9 60;sleeper 10 1 0 40 0;sleeper 10 1 5 40 0;");
        best("good: 30 and 35, or 40 and 30", x, false, 30, 1, 0);
        x = Check.house("fade 9;bed 0;bed 35;noise 0 0 9 60;sleeper 10 1 5 40 0;sleeper 10 1 0 40 0;");
        best("good: 30 and 40, or 35 and 30", x, false, 30, 0, 1);
        x = Check.house("fade 9;bed 0;bed 35;noise 0 0 9 60;sleeper 10 1 0 40 0;sleeper 10 1 8 31 0;");
        best("worst ahead of good: 30 and 23, or 40 and 21", x, false, 23, 0, 1);
        x = Check.house("fade 9;bed 35;bed 0;noise 0 0 9 60;sleeper 10 1 0 40 0;sleeper 10 1 8 31 0;");
        best("the row of less good though it comes later", x, false, 23, 1, 0);
        // 20 is just heard: with one less she would sleep in either bed
        x = Check.house("fade 0;bed 0;bed 35;noise 0 0 39 20;sleeper 20 1 0 40 0;");
        best("just heard", x, false, 0, 0);
        Check.due("just heard: order", x.lie(0, 0) + x.order(-1), -1);
        x.put(0, 1);
        best("not heard in the other bed", x, false, 40, 1);
        x = Check.house("fade 9;bed 0;bed 35;noise 0 0 9 60;sleeper 10 1 0 40 0;sleeper 10 1 0 31 0;");
        best("worst: 30, or 40 and 21", x, false, 30, 0, 1);
        x.rule(0, 1, true);
        best("with rules", x, true, 21, 1, 0);
        Check.due("cost", x.cost(), 9);
        x.free();
        Check.due("cost of none", x.cost(), 0);
        x.rule(0, 0, true);
        Check.due("cost of one that is kept to", x.cost(), 0);
    }

    /** Nothing of an earlier search is left. */
    private static void searchAnew() {
        OneRoom x = beds(1, 1);
        x.image(0);
        x = beds(6, 5);
        x.image(1);
        Check.due("one bed told", Check.told(x, "bed 7;sleeper 60 1 4 40 0;"), 2);
        x.image(0);
        for (int i = 0; i < 3; i++) {
            x.from(1);
            x.rule(0, 5, true);
            best("five", x, true, 36, 5, 0, 1, 2, 3);
            Check.due("whose goes", x.order(4), 4);
            x.from(0);
            best("one", x, false, 36, 0);
            best("one", x, true, 36, 0);
            Check.due("her own goes", x.order(0), 0);
            Check.due("order", x.order(-1), 0);
            Check.due("cost", x.cost(), 0);
        }
        x.lie(0, 0);
        Check.due("order of one who lies in a bed", x.order(-1), 36);
    }

    // ---- ORDER

    private static void order(String what, OneRoom x, int worst, int... row) {
        long[] was = Check.state(x);
        Check.due(what + ": worst", x.order(-1), worst);
        for (int i = 0; i < row.length; i++) {
            Check.due(what + ": whose goes " + i + " has", x.order(i), row[i]);
        }
        Check.row(what + ": changes nothing", Check.state(x), was);
    }

    private static void orders() {
        String beds = "bed 0;bed 1;bed 2;";
        order("one", Check.house(beds + "sleeper 60 1 9 40 0;lie 0 0;"), 31, 0);
        order("one in no bed", Check.house(beds + "sleeper 60 1 9 40 0;"), 0, 0);
        String lie = "lie 0 0;lie 1 1;";
        order("exchanged", Check.house(beds + "sleeper 60 1 9 29 0;sleeper 60 1 0 40 0;" + lie), 29, 1, 0);
        order("below up, just", Check.house(beds + "sleeper 60 1 9 12 0;sleeper 60 1 11 13 0;" + lie), 2, 0, 1);
        order("not below up: as it is", Check.house(beds + "sleeper 60 1 0 5 0;sleeper 60 1 10 40 0;" + lie), 5, 0, 1);
        order("up itself is not below", Check.house(beds + "sleeper 60 1 4 10 0;sleeper 60 1 10 40 0;" + lie), 6, 0, 1);
        order("the second of them can not", Check.house(beds + "sleeper 60 1 10 40 0;sleeper 60 1 0 5 0;" + lie), 5, 0, 1);
        order("just below up", Check.house(beds + "sleeper 60 1 9 11 0;sleeper 60 1 8 9 0;" + lie), 1, 0, 1);
        order("alike: the first row", Check.house(beds + "sleeper 60 1 3 40 0;sleeper 60 1 3 40 0;" + lie), 37, 0, 1);
        order("worst alike, good alike: the first row", Check.house(beds + "sleeper 60 1 9 40 0;sleeper 60 1 0 40 0;" + lie), 31, 0, 1);
        // 0 to 35 by AGAIN: 35 - 0, 40 - 9 as it is; 35 - 9 exchanged
        order("the greatest worst", Check.house(beds + "sleeper 60 1 0 35 0;sleeper 60 1 9 40 0;" + lie), 31, 0, 1);
        // among all: one who lies in no bed takes a late one, and good is greater
        order("among all, then by good", Check.house(beds + "sleeper 60 1 9 40 0;sleeper 60 1 0 40 0;lie 0 0;"), 0, 1, 0);
        order("three: turned about", Check.house(beds + "sleeper 60 1 6 26 0;sleeper 60 1 3 23 0;sleeper 60 1 0 40 0;" + lie
                + "lie 2 2;"), 23, 1, 2, 0);
        OneRoom x = new OneRoom();
        for (int i = 0; i < 5; i++) {
            x.bed(i);
            x.sleeper(60, 1, 8 - 2 * i, 20 + 2 * i, 0);
            x.lie(i, i);
        }
        order("five: the last row of all", x, 20, 4, 3, 2, 1, 0);
        Check.no("nobody", () -> beds(6, 0), y -> y.order(-1));
        Check.bad("nobody: bad ahead of no", () -> beds(6, 0), y -> y.order(0));
        Check.bad("nobody: bad ahead of no", () -> beds(6, 0), y -> y.order(-2));
    }

    // ---- THINGS, SCREW

    private static void worth(String what, OneRoom x, int thing, int n, int want) {
        long[] was = Check.state(x);
        Check.due(what, x.worth(thing, n), want);
        Check.row(what + ": changes nothing", Check.state(x), was);
    }

    private static void things() {
        String one = "bed 1;sleeper 20 1 0 40 0;lie 0 0;noise 1 0 39 ";
        worth("wax: 10 more", Check.house(one + "29;"), 0, 0, 40);
        worth("wax: no more than 10", Check.house(one + "30;"), 0, 0, 0);
        worth("fan: 5 more", Check.house(one + "24;"), 1, 0, 40);
        worth("fan: no more than 5", Check.house(one + "25;"), 1, 0, 0);
        worth("fan beside an out", Check.house(one + "26;out 0 0 39 2;"), 1, 0, 40);
        worth("fan beside an out", Check.house(one + "27;out 0 0 39 2;"), 1, 0, 0);
        worth("fan in all slots", Check.house("bed 1;sleeper 20 1 0 40 0;lie 0 0;noise 1 0 0 20;noise 1 39 39 32;"), 1, 0, 2);
        worth("wax above 60", Check.house("bed 1;sleeper 60 1 0 40 0;lie 0 0;noise 1 0 39 60;"), 0, 0, 40);
        worth("wax for one in no bed", Check.house("bed 1;sleeper 20 1 0 40 0;noise 1 0 39 25;"), 0, 0, 0);
        // worst, not good: the other one stays the worst
        String two = "bed 1;bed 2;sleeper 20 1 0 40 0;sleeper 20 1 0 40 0;lie 0 0;lie 1 1;fade 0;noise 1 0 39 25;";
        worth("wax for one of two", Check.house(two), 0, 0, 0);
        worth("wax for the other", Check.house(two), 0, 1, 0);
        String steps = "bed 1;bed 5;sleeper 10 1 0 40 0;sleeper 60 1 6 40 0;lie 0 0;lie 1 1;noise 1 0 4 60;board 3 40;";
        // asleep in 5, woken in 6, asleep in 7 .. 39: 34; without 35; the other sleeps 34
        worth("a board: worst is the other's", Check.house(steps), 2, 3, 0);
        worth("a board beside the way", Check.house(steps), 2, 9, 0);
        String late = steps.replace("0 4 60", "0 9 60").replace("60 1 6 40 0", "60 1 12 40 0");
        // asleep in 10, 11, woken in 12, asleep from 13 on: 29, and the other 28; in 8 that one sleeps 32
        worth("a board: still the other's", Check.house(late), 2, 3, 0);
        worth("a ball for one who does not snore", Check.house(late), 3, 0, 0);
        String snore = "bed 1;bed 2;sleeper 20 1 0 40 0;sleeper 60 1 0 40 60;lie 0 0;lie 1 1;";
        worth("a ball for one who does", Check.house(snore), 3, 1, 20);
        worth("a ball for the other", Check.house(snore), 3, 0, 0);
        // what is left of a board, of a snore: nothing, as 1 would be heard by one who hears from 1 on
        String all = "fade 0;bed 1;bed 2;sleeper 1 1 0 40 0;sleeper 60 1 6 40 0;lie 0 0;lie 1 1;noise 1 0 5 60;board 2 40;";
        worth("nothing of a board is left", Check.house(all), 2, 2, 1);
        worth("nothing of a snore is left", Check.house("fade 0;bed 1;bed 2;sleeper 1 1 2 40 0;sleeper 60 1 0 40 60;lie 0 0;lie 1 1;"),
                3, 1, 20);
        // a fan is a fan alone: sleeper 0 snores on, the board of cell 0 creaks on
        worth("a fan leaves the snores", Check.house("fade 0;bed 1;bed 2;sleeper 60 1 0 40 60;sleeper 1 1 2 40 0;lie 0 0;lie 1 1;"),
                1, 0, 0);
        worth("a fan leaves the board of 0", Check.house("fade 0;bed 1;bed 2;sleeper 60 1 0 30 0;sleeper 1 1 10 40 0;lie 0 0;"
                + "lie 1 1;board 0 40;"), 1, 0, 0);
        worth("a ball for one in no bed", Check.house(snore + "sleeper 1 1 0 40 60;"), 3, 2, 0);
    }

    /** A WORTH below 0: -2, -3, -4 and the like are answers, and STATUS counts none of them. */
    private static void worthBelowNothing() {
        int[] seen = new int[100];
        for (int again = 1; again <= 9; again++) {
            for (int at = 1; at < 12; at++) {
                // kept awake by the board in 1, she lies otherwise deep when the noise comes
                OneRoom x = Check.house("fade 0;bed 1;bed 2;sleeper 10 " + again + " 0 40 0;sleeper 60 1 1 40 0;lie 0 0;lie 1 1;"
                        + "board 2 40;");
                x.sound(0, 1, at, at, 14);
                int was = Math.min(x.slept(0), x.slept(1));
                OneRoom y = Check.house("fade 0;bed 1;bed 2;sleeper 10 " + again + " 0 40 0;sleeper 60 1 1 40 0;lie 0 0;lie 1 1;");
                y.sound(0, 1, at, at, 14);
                int with = Math.min(y.slept(0), y.slept(1));
                worth("again " + again + " at " + at, x, 2, 2, with - was);
                seen[50 + with - was]++;
            }
        }
        Check.due("some are below 0", seen[49] + seen[48] + seen[47] + seen[46] > 0 ? 1 : 0, 1);
        Check.due("one is -2, as BAD", seen[48] > 0 ? 1 : 0, 1);
        Check.due("one is -3, as NO", seen[47] > 0 ? 1 : 0, 1);
        Check.due("one is -4, as FULL", seen[46] > 0 ? 1 : 0, 1);
    }

    private static void screw() {
        OneRoom x = new OneRoom();
        Check.due("no cell creaks", x.screw(), -1);
        x.board(35, 1);
        Check.due("the one that does", x.screw(), 35);
        x.board(0, 40);
        Check.due("of like ones the least", x.screw(), 0);
        x.board(0, 0);
        Check.due("35 again", x.screw(), 35);
        x.board(35, 0);
        Check.due("none again", x.screw(), -1);
        x.wall(20, true);
        x.board(20, 3);
        Check.due("in a wall", x.screw(), 20);
        // two alike where all sleep, and where one lies in no bed: the least, not the last
        x = Check.house("bed 1;sleeper 60 1 0 40 0;lie 0 0;board 9 5;board 20 5;board 30 5;");
        Check.due("alike, worst 40", x.screw(), 9);
        x.sleeper(60, 1, 0, 40, 0);
        Check.due("alike, worst 0, good 40", x.screw(), 9);
        // by WORTH: the board at 3 wakes the worst one; the one at 1 does nothing but creak
        x = Check.house("bed 1;bed 5;sleeper 10 1 0 40 0;sleeper 60 1 0 40 0;sleeper 60 1 2 40 0;bed 35;lie 0 0;lie 1 1;lie 2 2;"
                + "board 20 40;");
        Check.due("nobody wakes by it", x.screw(), 20);
        String two = "bed 1;bed 5;sleeper 10 2 0 40 0;sleeper 60 1 6 40 0;lie 0 0;lie 1 1;board 0 40;board 3 40;noise 1 0 4 60;";
        x = Check.house(two);
        Check.due("asleep from 8 on, as a step comes in 6", x.slept(0), 32);
        Check.due("worth of 3", x.worth(2, 3), 2);
        Check.due("worth of 0", x.worth(2, 0), 0);
        Check.due("by worth", x.screw(), 3);
        x.board(9, 40);
        x.board(35, 40);
        Check.due("by worth, among less ones ahead and behind", x.screw(), 3);
        // worst is 0 for all: by GOOD
        x = Check.house(two + "sleeper 1 1 0 40 0;");
        Check.due("worth of 3", x.worth(2, 3), 0);
        Check.due("by good", x.screw(), 3);
        x.board(9, 40);
        x.board(35, 40);
        Check.due("by good, among less ones ahead and behind", x.screw(), 3);
        Check.row("counted nowhere", new long[] {x.status(0), x.status(1), x.status(2)}, 0, 0, 0);
        // a worth below 0 is less than one of 0, though its cell is less
        x = Check.house("fade 0;bed 1;bed 2;sleeper 10 4 0 40 0;sleeper 60 1 1 40 0;lie 0 0;lie 1 1;board 2 40;noise 1 9 9 14;");
        Check.due("as it is: asleep from 5 on, two deep in 9", x.slept(0), 35);
        Check.due("without: asleep from 3 on, woken in 9, asleep again in 13", x.worth(2, 2), -2);
        Check.due("the only one, whatever its worth", x.screw(), 2);
        x.board(30, 1);
        Check.due("the greater worth, 0", x.screw(), 30);
        Check.row("counted nowhere", new long[] {x.status(0), x.status(1), x.status(2)}, 0, 0, 0);
    }

    // ---- ROOMS, TEMPER, QUARREL, TENT

    private static final String FIVE = "fade 0;bed 1;bed 2;bed 3;bed 4;bed 5;";
    private static final String LIE = "lie 0 0;lie 1 1;lie 2 2;lie 3 3;lie 4 4;";

    /** Those of the bits are loud: each rings in a slot of her own; the others hear all. */
    private static OneRoom ringing(int bits) {
        StringBuilder s = new StringBuilder(FIVE);
        for (int i = 0; i < 5; i++) {
            s.append("sleeper ").append((bits >> i & 1) != 0 ? 60 : 1).append(" 1 0 40 0;");
        }
        OneRoom x = Check.house(s + LIE);
        for (int i = 0; i < 5; i++) {
            if ((bits >> i & 1) != 0) {
                x.sound(3, i, 7 + 2 * i, 39, 30);
            }
        }
        return x;
    }

    private static void rooms() {
        for (int bits = 0; bits < 32; bits++) {
            int want = (bits & 1) == 0 ? bits : 31 - bits;
            Check.due("the loud ones " + bits + " by themselves", ringing(bits).rooms(), want);
        }
        for (int n = 1; n <= 5; n++) {
            OneRoom x = new OneRoom();
            for (int i = 0; i < n; i++) {
                x.sleeper(1, 1, 0, 40, 60);
            }
            Check.due(n + " in no bed: all in one", x.rooms(), 0);
        }
        Check.no("nobody", () -> beds(6, 0), x -> x.rooms());
        // two who wake one another: the second one away
        String two = "fade 0;bed 1;bed 2;sleeper 20 1 0 40 0;sleeper 20 1 0 40 0;lie 0 0;lie 1 1;";
        Check.due("one wakes the other", Check.house(two + "rung 0 7 7 40;").rooms(), 2);
        Check.due("the other way", Check.house(two + "rung 1 7 7 40;").rooms(), 2);
        Check.due("a noise is nobody's", Check.house(two + "noise 1 7 7 40;").rooms(), 0);
        // 2 wakes 0 twice, 1 wakes 0 once, 2 wakes 1 once: 0 with 1 is one, 1 with 2 is one, 0 with 2 two
        String three = FIVE + "sleeper 1 1 0 40 0;sleeper 20 1 0 40 0;sleeper 60 1 0 40 0;lie 0 0;lie 1 1;lie 2 2;";
        OneRoom x = Check.house(three + "rung 2 7 7 10;rung 2 13 13 30;rung 1 20 20 15;");
        Check.due("2 wakes 0", x.woke(2, 0), 2);
        Check.due("2 wakes 1", x.woke(2, 1), 1);
        Check.due("1 wakes 0", x.woke(1, 0), 1);
        Check.due("1 with 0, or 1 with 2, alike: the least bits", x.rooms(), 4);
        x.sound(3, 1, 26, 26, 15);
        Check.due("1 with 2", x.rooms(), 6);
    }

    private static void temper() {
        for (int slept = 0; slept <= 40; slept++) {
            OneRoom x = new OneRoom();
            x.bed(1);
            x.sleeper(60, 1, 0, Math.max(1, slept), 0);
            if (slept > 0) {
                x.lie(0, 0);
            }
            for (int n : new int[] {0, 1, 2, 13, 14}) {
                Check.due("temper of " + slept + " behind " + n, x.temper(0, n), n * (slept < 24 ? 24 - slept : 0));
            }
            Check.due("nobody else to quarrel with", x.quarrel(1), -1);
        }
    }

    private static void quarrel() {
        // two who lack a and b: the first night behind which n (a + b) comes to the limit
        for (int a = 0; a <= 24; a += 4) {
            for (int b = 0; b <= 24; b += 3) {
                OneRoom x = new OneRoom();
                x.bed(1);
                x.bed(2);
                x.sleeper(60, 1, 0, Math.max(1, 24 - a), 0);
                x.sleeper(60, 1, 0, Math.max(1, 24 - b), 0);
                x.lie(0, a == 24 ? -1 : 0);
                x.lie(1, b == 24 ? -1 : 1);
                for (int n = 1; n <= 14; n++) {
                    int all = n * (a + b);
                    Check.due("just " + all, all < 1 ? -1 : x.quarrel(all), all < 1 ? -1 : n);
                    Check.due("one more than " + all, x.quarrel(all + 1), all < 1 || n == 14 ? -1 : n + 1);
                }
                Check.due("1", x.quarrel(1), a + b > 0 ? 1 : -1);
                Check.due("999", x.quarrel(999), -1);
            }
        }
        // some two: the last ones of five, and more sleep of others takes nothing away
        OneRoom x = Check.house(FIVE + "sleeper 60 1 0 40 0;sleeper 60 1 0 40 0;sleeper 60 1 0 23 0;sleeper 60 1 0 20 0;"
                + "sleeper 60 1 0 18 0;" + LIE);
        Check.due("4 and 6", x.quarrel(10), 1);
        Check.due("not all three", x.quarrel(11), 2);
        Check.due("140 in 14", x.quarrel(140), 14);
        Check.due("141 in none", x.quarrel(141), -1);
        x.lie(0, -1);
        Check.due("24 and 6", x.quarrel(30), 1);
        Check.due("420 in 14", x.quarrel(420), 14);
        Check.due("421 in none", x.quarrel(421), -1);
        x.lie(4, -1);
        Check.due("24 and 24", x.quarrel(48), 1);
        Check.due("672 in 14", x.quarrel(672), 14);
        Check.due("673 in none", x.quarrel(673), -1);
        Check.row("counted nowhere", new long[] {x.status(0), x.status(1), x.status(2)}, 0, 0, 0);
    }

    private static void tent() {
        for (int slots = -3; slots <= 39; slots++) {
            OneRoom x = new OneRoom();
            // UP less GOES less AGAIN
            int again = slots < 0 ? 4 : 1;
            x.sleeper(1, again, 0, slots + again, 0);
            int all = Math.max(0, slots);
            for (int a = 0; a <= 10; a++) {
                int f = 10;
                while (all * a % f != 0 || 10 % f != 0) {
                    f--;
                }
                Check.due("tent", x.tent(0, a), 1);
                Check.due("above: " + slots + " in " + a + " of 10", x.part(0), all * a / f);
                Check.due("below: " + slots + " in " + a + " of 10", x.part(1), 10 / f);
            }
        }
        OneRoom x = Check.house("sleeper 1 9 3 15 0;sleeper 1 9 3 12 0;sleeper 1 9 3 11 0;");
        x.tent(0, 10);
        Check.due("15 less 3 less 9", x.part(0), 3);
        Check.due("refused", x.tent(0, 11), -2);
        Check.due("as it was", x.part(0), 3);
        x.tent(1, 10);
        Check.due("just none", x.part(0), 0);
        Check.due("by 1", x.part(1), 1);
        x.tent(0, 7);
        Check.due("21", x.part(0), 21);
        Check.due("by 10", x.part(1), 10);
        x.tent(2, 7);
        Check.due("not below none", x.part(0), 0);
        Check.due("by 1", x.part(1), 1);
        // a tent asks for no bed, and nothing of the night
        x = Check.house("bed 1;sleeper 1 1 0 40 0;lie 0 0;noise 1 0 39 60;");
        x.tent(0, 10);
        Check.due("39", x.part(0), 39);
        Check.due("she sleeps nothing at home", x.slept(0), 0);
    }

    public static void main(String[] args) {
        oneCell();
        leastHeard();
        fewestSteps();
        cornersOfWays();
        bestOf();
        rules();
        worstThenGood();
        searchAnew();
        orders();
        things();
        worthBelowNothing();
        screw();
        rooms();
        temper();
        quarrel();
        tent();
        Check.end("what is best");
    }
}
