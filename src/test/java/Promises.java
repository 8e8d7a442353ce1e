/** Each promise by itself, with answers worked out by hand: ordinary inputs, edges, wrong inputs. */
public final class Promises {
    private static final int MOST = Integer.MAX_VALUE, LEAST = Integer.MIN_VALUE;
    private static int asked = 0;
    private static int wrong = 0;

    private static void due(String what, long got, long want) {
        asked++;
        if (got != want) {
            wrong++;
            System.out.println(what + ": answered " + got + ", due is " + want);
        }
    }

    /** THE TEXT is this one. */
    private static void write(OneRoom x, String s) {
        x.clear();
        for (int i = 0; i < s.length(); i++) {
            x.type(s.charAt(i), 1);
        }
    }

    private static int told(OneRoom x, String s) {
        write(x, s);
        return x.house();
    }

    private static OneRoom house(String s) {
        OneRoom x = new OneRoom();
        int items = told(x, s);
        if (items < 0) {
            due("the house of the test: " + s, items, 0);
        }
        x.clear();
        return x;
    }

    /** A call that is refused: its answer, and that nothing but STATUS is another. */
    private static void statusIs(String what, OneRoom x, int bad, int no, int full) {
        due(what + ": status(0)", x.status(0), bad);
        due(what + ": status(1)", x.status(1), no);
        due(what + ": status(2)", x.status(2), full);
    }

    // ---- 1 to 12: a house

    private static long freshDigest() {
        long h = 587;
        for (int i = 0; i < 6 + 72; i++) {
            h = 31 * h;
        }
        h = 31 * h + 2;
        h = 31 * h;
        h = 31 * h;
        return 31 * h + 1;
    }

    private static void promise1() {
        OneRoom x = new OneRoom();
        for (int i = 0; i <= 5; i++) {
            due("1 count(" + i + ")", x.count(i), 0);
        }
        due("1 part(0)", x.part(0), 0);
        due("1 part(1)", x.part(1), 1);
        due("1 digest", x.digest(), freshDigest());
        statusIs("1", x, 0, 0, 0);
        due("1 fade", x.put(0, 2), 2);
        due("1 door", x.put(1, 0), 0);
        due("1 no image", x.from(0), -3);
        due("1 no image", x.from(1), -3);
        due("1 NONE", OneRoom.NONE, -1);
        due("1 BAD", OneRoom.BAD, -2);
        due("1 NO", OneRoom.NO, -3);
        due("1 FULL", OneRoom.FULL, -4);
    }

    private static void promise2() {
        OneRoom x = new OneRoom();
        x.bed(7);
        due("2 wall(35)", x.wall(35, true), 1);
        due("2 it is so", x.wall(35, true), -3);
        due("2 count", x.count(0), 1);
        due("2 none", x.wall(35, false), 1);
        due("2 none is so", x.wall(35, false), -3);
        due("2 at a bed", x.wall(7, true), -2);
        due("2 none at a bed", x.wall(7, false), -2);
        due("2 at the door", x.wall(0, true), -2);
        due("2 none at the door", x.wall(0, false), -2);
        due("2 cell 36", x.wall(36, true), -2);
        due("2 cell -1", x.wall(-1, true), -2);
        due("2 far off", x.wall(MOST, false), -2);
        due("2 far below", x.wall(LEAST, true), -2);
        statusIs("2", x, 8, 2, 0);
        x.put(1, 35);
        due("2 the old door", x.wall(0, true), 1);
        due("2 the new door", x.wall(35, true), -2);
        due("2 count", x.count(0), 1);
    }

    private static void promise3() {
        OneRoom x = new OneRoom();
        due("3 first", x.board(35, 40), 0);
        due("3 what it was", x.board(35, 3), 40);
        due("3 what it was", x.board(35, 0), 3);
        due("3 at the door", x.board(0, 1), 0);
        due("3 41", x.board(35, 41), -2);
        due("3 -1", x.board(35, -1), -2);
        due("3 cell 36", x.board(36, 1), -2);
        due("3 cell -1", x.board(-1, 1), -2);
        due("3 far off", x.board(MOST, LEAST), -2);
        x.wall(5, true);
        due("3 on a wall", x.board(5, 7), 0);
        due("3 nothing changed", x.board(35, 0), 0);
        statusIs("3", x, 5, 0, 0);
    }

    private static void promise4() {
        OneRoom x = new OneRoom();
        x.wall(9, true);
        due("4 fade", x.put(0, 9), 2);
        due("4 fade", x.put(0, 0), 9);
        due("4 fade 10", x.put(0, 10), -2);
        due("4 fade -1", x.put(0, -1), -2);
        due("4 fade as it was", x.put(0, 1), 0);
        due("4 door", x.put(1, 35), 0);
        due("4 door at a wall", x.put(1, 9), -2);
        due("4 door 36", x.put(1, 36), -2);
        due("4 door -1", x.put(1, -1), -2);
        x.bed(3);
        due("4 door at a bed", x.put(1, 3), 35);
        due("4 what", x.put(2, 0), -2);
        due("4 what", x.put(-1, 0), -2);
        due("4 what", x.put(LEAST, MOST), -2);
        statusIs("4", x, 8, 0, 0);
    }

    private static void promise5() {
        OneRoom x = new OneRoom();
        x.wall(9, true);
        due("5 at the door", x.bed(0), 0);
        due("5 at a wall", x.bed(9), -2);
        due("5 at a bed", x.bed(0), -2);
        due("5 cell 36", x.bed(36), -2);
        due("5 cell -1", x.bed(-1), -2);
        for (int i = 1; i < 6; i++) {
            due("5 next", x.bed(i), i);
        }
        due("5 full", x.bed(35), -4);
        due("5 bad ahead of full", x.bed(5), -2);
        due("5 count", x.count(1), 6);
        statusIs("5", x, 5, 0, 1);
    }

    private static void promise6() {
        OneRoom x = new OneRoom();
        due("6 hears 0", x.sleeper(0, 1, 0, 40, 0), -2);
        due("6 hears 61", x.sleeper(61, 1, 0, 40, 0), -2);
        due("6 again 0", x.sleeper(1, 0, 0, 40, 0), -2);
        due("6 again 10", x.sleeper(1, 10, 0, 40, 0), -2);
        due("6 goes -1", x.sleeper(1, 1, -1, 40, 0), -2);
        due("6 goes 40", x.sleeper(1, 1, 40, 41, 0), -2);
        due("6 up as goes", x.sleeper(1, 1, 3, 3, 0), -2);
        due("6 up 41", x.sleeper(1, 1, 0, 41, 0), -2);
        due("6 snores -1", x.sleeper(1, 1, 0, 40, -1), -2);
        due("6 snores 61", x.sleeper(1, 1, 0, 40, 61), -2);
        due("6 far off", x.sleeper(1, 1, MOST, LEAST, 0), -2);
        due("6 least", x.sleeper(1, 1, 0, 1, 0), 0);
        due("6 most", x.sleeper(60, 9, 39, 40, 60), 1);
        for (int i = 2; i < 5; i++) {
            due("6 next", x.sleeper(10, 1, 0, 40, 0), i);
        }
        due("6 full", x.sleeper(10, 1, 0, 40, 0), -4);
        due("6 bad ahead of full", x.sleeper(10, 1, 0, 40, 61), -2);
        due("6 count", x.count(2), 5);
        due("6 in no bed", x.lie(1, -1), -1);
        statusIs("6", x, 12, 0, 1);
    }

    private static void promise7() {
        OneRoom x = house("bed 1;bed 2;sleeper 10 1 0 40 0;sleeper 10 1 0 40 0;");
        due("7 lie", x.lie(0, 0), -1);
        due("7 another lies there", x.lie(1, 0), -20);
        due("7 where she lies", x.lie(0, 0), 0);
        due("7 another bed", x.lie(0, 1), 0);
        due("7 in none", x.lie(0, -1), 1);
        due("7 in none", x.lie(0, -1), -1);
        due("7 both in none", x.lie(1, -1), -1);
        due("7 bed 2", x.lie(0, 2), -10);
        due("7 bed -2", x.lie(0, -2), -10);
        due("7 sleeper 2", x.lie(2, 0), -10);
        due("7 sleeper -1", x.lie(-1, 0), -10);
        due("7 far off", x.lie(MOST, LEAST), -10);
        statusIs("7", x, 5, 1, 0);
    }

    private static void promise8() {
        OneRoom x = house("sleeper 10 1 0 40 0;");
        due("8 kind 5", x.sound(5, 0, 0, 39, 1), -2);
        due("8 kind -1", x.sound(-1, 0, 0, 39, 1), -2);
        due("8 noise x 36", x.sound(0, 36, 0, 39, 1), -2);
        due("8 noise x -1", x.sound(0, -1, 0, 39, 1), -2);
        for (int kind = 1; kind <= 3; kind++) {
            due("8 sleeper x 1", x.sound(kind, 1, 0, 39, 1), -2);
            due("8 sleeper x -1", x.sound(kind, -1, 0, 39, 1), -2);
        }
        due("8 out x 1", x.sound(4, 1, 0, 39, 1), -2);
        due("8 a -1", x.sound(0, 0, -1, 39, 1), -2);
        due("8 b 40", x.sound(0, 0, 0, 40, 1), -2);
        due("8 b below a", x.sound(0, 0, 4, 3, 1), -2);
        due("8 v -1", x.sound(0, 0, 0, 39, -1), -2);
        due("8 v 61", x.sound(4, 0, 0, 39, 61), -2);
        statusIs("8", x, 16, 0, 0);
        x.wall(35, true);
        due("8 at a wall", x.sound(0, 35, 0, 0, 60), 0);
        for (int kind = 1; kind <= 4; kind++) {
            due("8 next", x.sound(kind, 0, 39, 39, 0), kind);
        }
        for (int i = 5; i < 8; i++) {
            due("8 next", x.sound(0, i, 0, 39, 60), i);
        }
        due("8 full", x.sound(0, 0, 0, 39, 60), -4);
        due("8 bad ahead of full", x.sound(0, 0, 0, 40, 60), -2);
        due("8 count", x.count(3), 8);
    }

    private static void promise9() {
        OneRoom x = house("bed 1;sleeper 10 1 0 40 0;lie 0 0;noise 1 0 39 60;noise 1 0 3 60;");
        due("9 slept with both", x.slept(0), 0);
        due("9 still", x.still(), 1);
        due("9 count", x.count(3), 1);
        due("9 the last one alone", x.slept(0), 0);
        due("9 still", x.still(), 1);
        due("9 slept with none", x.slept(0), 40);
        due("9 none", x.still(), -3);
        statusIs("9", x, 0, 1, 0);
        due("9 numbers from 0 again", x.sound(0, 0, 0, 0, 0), 0);
    }

    private static void promise10() {
        OneRoom x = new OneRoom();
        due("10 n 0", x.type(1, 0), -2);
        due("10 n 9", x.type(1, 9), -2);
        due("10 n far off", x.type(1, LEAST), -2);
        due("10 the lowest 4, the highest of them first", x.type(0x7777_7777_6265_6437L, 4), 4);
        due("10 one", x.type(';', 1), 5);
        due("10 they tell bed7;", x.house(), 1);
        due("10 there", x.bed(7), -2);
        due("10 eight", x.type(0x2020202020202020L, 8), 13);
        for (int i = 13; i + 8 <= 300; i += 8) {
            due("10 more", x.type(0x2020202020202020L, 8), i + 8);
        }
        due("10 has 293", x.count(5), 293);
        due("10 full", x.type(0x2020202020202020L, 8), -4);
        due("10 bad ahead of full", x.type(0, 9), -2);
        due("10 300", x.type(0x20202020202020L, 7), 300);
        due("10 full", x.type(' ', 1), -4);
        due("10 all of it", x.house(), 1);
        statusIs("10", x, 5, 0, 2);
    }

    private static void promise11() {
        OneRoom x = new OneRoom();
        due("11 empty", x.clear(), 0);
        x.type(1, 5);
        due("11 five", x.clear(), 5);
        due("11 empty", x.clear(), 0);
        due("11 none", x.count(5), 0);
        statusIs("11", x, 0, 0, 0);
    }

    private static void promise12() {
        OneRoom x = house("wall 7;board 8 40;fade 3;door 9;bed 10;bed 11;sleeper 60 9 39 40 60;lie 0 1;noise 35 0 39 60;"
                + "cried 0 1 2 3;turned 0 1 2 3;rung 0 1 2 3;out 0 4 5 6;");
        due("12 wall", x.wall(7, true), -3);
        due("12 board", x.board(8, 40), 40);
        due("12 fade", x.put(0, 3), 3);
        due("12 door", x.put(1, 9), 9);
        due("12 lie", x.lie(0, 1), 1);
        due("12 beds", x.count(1), 2);
        due("12 sounds", x.count(3), 5);
        due("12 out", x.heard(10, 60, 10, 4), 54);
        x.rule(0, 0, true);
        x.tent(0, 5);
        x.image(0);
        long images = x.digest();
        due("12 an empty text tells an empty house", x.house(), 0);
        due("12 all anew, no rules", x.digest() == freshDigest() ? 1 : 0, 1);
        due("12 the images stay", x.from(0), 1);
        due("12 the images stay", x.digest() == images ? 1 : 0, 1);
        x.type(' ', 1);
        due("12 a blank alone", x.house(), 0);
        due("12 the text stays", x.count(5), 1);
        statusIs("12", x, 0, 1, 0);
    }

    private static void promise12Tokens() {
        OneRoom x = new OneRoom();
        due("12 no blanks", told(x, "bed1;board2 3;"), 2);
        due("12 many blanks", told(x, "   bed    01   ;  board  2   03  ;   "), 2);
        due("12 board 2", x.board(2, 0), 3);
        due("12 00", told(x, "bed 00;"), 1);
        String[] texts = {"beds 1;", "be 1;", "7;", ";", "bed;", "bed x;", "bed 1", "bed", "bed ", "bed 1  ", "bed 100;",
            "bed 1 2;", "bed 12 345;", "board 1;", "board 1 2 3;", "bed 1;;", "bed 1;bed 2;wal 3;", "Bed 1;", "bed 1;\t",
            "bed -1;", "bed 1 bed 2;", "bed 1;bed 2;\n", "bedbed 1;", "wall wall 1;", "bed 1;wall 2", "bed\0001;", "wal",
            "  wal", "sleeper 1 1 0 40;", "noise 1 2 3;", "out 0 0 0 0 0;", "bed 1;\u00e9", "sleeper 1 2 3 4 5", "wallz 1;",
            "wal{ 1;", "bed `1;", "bed 1/;", "bed 1:;"};
        int[] faults = {0, 0, 0, 0, 3, 4, 5, 3, 4, 7, 4, 6, 7, 7, 10, 6, 12, 0, 6, 4, 6, 12, 0, 5, 12, 3, 0, 2, 16, 11, 12, 6, 17, 0, 0, 4, 5, 5};
        for (int i = 0; i < texts.length; i++) {
            due("12 fault of '" + texts[i] + "'", told(x, texts[i]), -10 - faults[i]);
        }
        statusIs("12 tokens", x, 0, 0, 0);
        due("12 nothing changed", x.bed(0), -2);
    }

    private static void promise12Items() {
        OneRoom x = house("bed 35;sleeper 10 1 0 40 0;");
        x.rule(0, 0, true);
        x.clear();
        long was = x.digest();
        String[] texts = {"wall 0;", "bed 1;wall 1;", "wall 1;wall 1;", "wall 36;", "board 1 41;", "fade 10;", "door 36;",
            "wall 2;door 2;", "bed 1;bed 1;", "bed1;bed2;bed3;bed4;bed5;bed6;bed7;", "sleeper 61 1 0 40 0;",
            "sleeper 1 1 4 4 0;", "lie 0 0;", "bed 1;sleeper 1 1 0 1 0;lie 0 1;",
            "bed 1;sleeper 1 1 0 1 0;sleeper 1 1 0 1 0;lie 0 0;lie 1 0;", "noise 36 0 1 1;", "cried 0 0 1 1;",
            "turned 0 0 1 1;", "rung 0 0 1 1;", "out 1 0 1 1;", "noise 1 2 1 1;", "noise 1 2 3 61;", "wall 0;wall 36;"};
        int[] items = {0, 1, 1, 0, 0, 0, 0, 1, 1, 6, 0, 0, 0, 2, 4, 0, 0, 0, 0, 0, 0, 0, 0};
        for (int i = 0; i < texts.length; i++) {
            due("12 refused in '" + texts[i] + "'", told(x, texts[i]), -1000 - items[i]);
        }
        due("12 a fault ahead of what is refused", told(x, "wall 0;bed 1"), -22);
        x.clear();
        due("12 nothing changed", x.digest() == was ? 1 : 0, 1);
        statusIs("12 items", x, 0, 0, 0);
        due("12 fifty items", told(new OneRoom(), "fade1;".repeat(50)), 50);
        due("12 five bytes each", told(new OneRoom(), "bed1;".repeat(60)), -1001);
    }

    // ---- 13 to 19: nights

    private static void promise13() {
        OneRoom x = house("wall 1;wall 6;wall 8;wall 14;");
        due("13 there", x.distance(7, 7), 0);
        due("13 by 13", x.distance(7, 35), 8);
        due("13 round about", x.distance(7, 9), 6);
        due("13 both ways", x.distance(9, 7), 6);
        due("13 not reached", x.distance(0, 35), -1);
        due("13 there, shut in", x.distance(0, 0), 0);
        due("13 from a wall", x.distance(1, 2), -1);
        due("13 to a wall", x.distance(2, 1), -1);
        due("13 a wall itself", x.distance(1, 1), -1);
        due("13 no step from 5 to 6", new OneRoom().distance(5, 6), 6);
        due("13 36", x.distance(36, 0), -2);
        due("13 -1", x.distance(0, -1), -2);
        due("13 far off", x.distance(LEAST, MOST), -2);
        statusIs("13", x, 3, 0, 0);
    }

    private static void promise14() {
        OneRoom x = house("wall 1;wall 6;out 0 3 5 4;out 0 5 9 7;");
        due("14 there", x.heard(9, 30, 9, 0), 30);
        due("14 three steps", x.heard(9, 30, 12, 0), 22);
        due("14 covered", x.heard(9, 30, 9, 3), 26);
        due("14 covered twice", x.heard(9, 30, 9, 5), 19);
        due("14 covered by the other", x.heard(9, 30, 9, 9), 23);
        due("14 not covered", x.heard(9, 30, 9, 10), 30);
        due("14 not below 0", x.heard(2, 1, 35, 0), 0);
        due("14 just 0", x.heard(9, 4, 9, 4), 0);
        due("14 not reached", x.heard(0, 60, 35, 0), 0);
        due("14 from a wall", x.heard(1, 60, 1, 0), 0);
        due("14 v 60", x.heard(9, 60, 9, 0), 60);
        due("14 v 0", x.heard(9, 0, 9, 0), 0);
        x.put(0, 0);
        due("14 fade 0", x.heard(2, 1, 35, 0), 1);
        due("14 v 61", x.heard(9, 61, 9, 0), -2);
        due("14 v -1", x.heard(9, -1, 9, 0), -2);
        due("14 slot 40", x.heard(9, 1, 9, 40), -2);
        due("14 slot -1", x.heard(9, 1, 9, -1), -2);
        due("14 cell 36", x.heard(36, 1, 9, 0), -2);
        due("14 cell -1", x.heard(9, 1, -1, 0), -2);
        statusIs("14", x, 6, 0, 0);
    }

    private static void promise15() {
        OneRoom x = house("bed 1;bed 2;sleeper 10 1 0 40 0;sleeper 10 9 5 14 0;sleeper 10 1 39 40 0;lie 0 0;lie 1 1;");
        due("15 all the night", x.slept(0), 40);
        due("15 asleep in her ninth slot", x.slept(1), 1);
        due("15 in no bed", x.slept(2), 0);
        x.lie(0, -1);
        x.lie(2, 0);
        due("15 the last slot", x.slept(2), 1);
        due("15 nobody", x.slept(3), -2);
        due("15 -1", x.slept(-1), -2);
        due("15 far off", x.slept(MOST), -2);
        statusIs("15", x, 3, 0, 0);
    }

    private static void promise16() {
        OneRoom x = house("bed 1;bed 2;sleeper 10 2 3 12 0;sleeper 10 1 0 40 0;lie 0 0;");
        int[] is = {0, 0, 0, 1, 2, 3, 4, 5, 4, 3, 2, 3, 0, 0};
        for (int slot = 0; slot < is.length; slot++) {
            due("16 is(0, " + slot + ")", x.is(0, slot), is[slot]);
        }
        due("16 the last slot", x.is(0, 39), 0);
        due("16 in no bed", x.is(1, 5), 0);
        due("16 slot 40", x.is(0, 40), -2);
        due("16 slot -1", x.is(0, -1), -2);
        due("16 sleeper 2", x.is(2, 0), -2);
        due("16 sleeper -1", x.is(-1, 0), -2);
        statusIs("16", x, 4, 0, 0);
    }

    /** By how deep she lies: she is asleep from slot 0, a noise comes in one slot. */
    private static void promise16Deep() {
        int[] deep = {0, 1, 2, 3, 2, 1, 0, 1, 2, 3};
        for (int slot = 1; slot < 10; slot++) {
            int needs = 10 + 4 * deep[slot];
            String at = ";noise 1 " + slot + " " + slot + " ";
            String bed = "bed 1;sleeper 10 1 0 40 0;lie 0 0";
            OneRoom x = house(bed + at + (needs - 1) + ";");
            due("16 less does not wake in " + slot, x.wakes(0, -1), 0);
            x = house(bed + at + needs + ";");
            due("16 as much wakes in " + slot, x.wakes(0, -1), 1);
            due("16 by it", x.wakes(0, 0), 100 * slot + 10);
            due("16 awake", x.is(0, slot), 1);
            due("16 asleep again", x.is(0, slot + 1), 2);
            due("16 slept", x.slept(0), 39);
        }
        OneRoom x = house("bed 1;sleeper 10 1 0 40 0;lie 0 0;noise 1 0 0 9;");
        due("16 falls asleep under a noise below what she hears", x.is(0, 0), 2);
        x = house("bed 1;sleeper 10 1 0 40 0;lie 0 0;noise 1 0 0 10;");
        due("16 lies awake by one that she hears", x.is(0, 0), 1);
        due("16 does not wake by it", x.wakes(0, -1), 0);
        x = house("bed 1;sleeper 10 3 0 40 0;lie 0 0;noise 1 2 2 10;");
        due("16 quiet has to run", x.is(0, 4), 1);
        due("16 three slots of it", x.is(0, 5), 2);
        x = house("bed 1;sleeper 10 3 0 40 0;lie 0 0;noise 1 2 2 9;");
        due("16 quiet runs on", x.is(0, 2), 2);
    }

    private static void promise17() {
        OneRoom x = house("bed 1;sleeper 10 1 0 40 0;lie 0 0;noise 35 0 0 0;noise 1 6 6 10;noise 1 39 39 60;");
        due("17 how often", x.wakes(0, -1), 2);
        due("17 the first", x.wakes(0, 0), 611);
        due("17 the second", x.wakes(0, 1), 3912);
        due("17 not so often", x.wakes(0, 2), -5);
        due("17 not so often", x.wakes(0, MOST), -5);
        due("17 i -2", x.wakes(0, -2), -10);
        due("17 far below", x.wakes(0, LEAST), -10);
        due("17 sleeper 1", x.wakes(1, 0), -10);
        due("17 sleeper -1", x.wakes(-1, -1), -10);
        statusIs("17", x, 4, 0, 0);
    }

    /** Sleeper 1 comes in in slot 6 and goes out in slot 12, past sleeper 0. */
    private static void promise17Steps() {
        String pair = "bed 1;bed 5;sleeper 10 1 0 40 0;sleeper 60 1 6 12 0;lie 0 0;lie 1 1;";
        OneRoom x = house(pair + "board 3 14;");
        due("17 both ways: in", x.wakes(0, 0), 601);
        due("17 in slot 12 she is one deep", x.wakes(0, -1), 1);
        x = house(pair + "board 3 18;");
        due("17 both ways", x.wakes(0, -1), 2);
        due("17 out", x.wakes(0, 1), 1201);
        x = house(pair + "board 0 40;");
        due("17 the door's board on the way out alone", x.wakes(0, -1), 1);
        due("17 the door's board on the way out alone", x.wakes(0, 0), 1201);
        x = house(pair + "board 5 40;");
        due("17 the bed's board on the way in alone", x.wakes(0, -1), 1);
        due("17 the bed's board on the way in alone", x.wakes(0, 0), 601);
        x = house(pair + "board 8 40;");
        due("17 a board beside the way", x.wakes(0, -1), 0);
        x = house(pair + "board 3 40;wall 4;wall 11;");
        due("17 not reached: no noise", x.wakes(0, -1), 0);
        due("17 not reached: she is in all the same", x.slept(1), 6);
        x = house("bed 1;sleeper 1 1 0 40 0;lie 0 0;board 1 40;");
        due("17 her own steps", x.slept(0), 40);
        // the way in from 6 to 1 is by 0 (up), the way out by 7 (down)
        String corner = "door 6;bed 1;bed 2;sleeper 60 1 6 12 0;sleeper 1 1 0 40 0;lie 0 0;lie 1 1;";
        x = house(corner + "board 0 40;");
        due("17 in by 0", x.wakes(1, -1), 1);
        due("17 in by 0", x.wakes(1, 0), 600);
        x = house(corner + "board 7 40;");
        due("17 out by 7", x.wakes(1, -1), 1);
        due("17 out by 7", x.wakes(1, 0), 1200);
        x = house("bed 0;bed 1;sleeper 60 1 6 12 0;sleeper 1 1 0 40 0;lie 0 0;lie 1 1;board 0 40;board 1 40;");
        due("17 a bed at the door: no steps", x.wakes(1, -1), 0);
    }

    /** Sleeper 1 hears all from 1, sleeper 0 sleeps through all; her bed is beside. */
    private static void promise17Kinds() {
        String pair = "bed 1;bed 2;sleeper 60 1 0 40 0;sleeper 1 1 0 40 0;lie 0 0;lie 1 1;";
        OneRoom x = house(pair + "cried 0 3 12 60;");
        due("17 cried in 3, 7, 11", x.wakes(1, -1), 3);
        due("17 cried", x.wakes(1, 0), 300);
        due("17 cried", x.wakes(1, 1), 700);
        due("17 cried", x.wakes(1, 2), 1100);
        due("17 cried: not by herself", x.wakes(0, -1), 0);
        x = house(pair + "rung 0 3 12 60;");
        due("17 rung in 3 alone", x.wakes(1, -1), 1);
        due("17 rung", x.wakes(1, 0), 300);
        x = house(pair + "rung 1 3 12 60;");
        due("17 rung: her own", x.wakes(1, -1), 0);
        due("17 rung: the other, three deep, needs 72", x.wakes(0, -1), 0);
        x = house(pair + "turned 0 3 12 60;");
        due("17 turned: she is asleep", x.wakes(1, -1), 0);
        x = house("bed 1;bed 2;sleeper 60 3 4 40 0;sleeper 1 1 0 40 0;lie 0 0;lie 1 1;turned 0 0 39 60;");
        due("17 turned while she is awake, from 4 to 6", x.wakes(1, -1), 1);
        due("17 turned", x.wakes(1, 0), 400);
        due("17 turned", x.is(1, 6), 1);
        due("17 turned no more", x.is(1, 7), 2);
        x = house("bed 1;bed 2;sleeper 60 1 30 40 0;sleeper 1 1 0 40 0;lie 0 0;lie 1 1;cried 0 3 3 60;");
        due("17 cried though she is not in", x.wakes(1, 0), 300);
        x = house("bed 1;bed 2;sleeper 60 1 30 40 0;sleeper 1 1 0 40 0;lie 1 1;cried 0 3 3 60;");
        due("17 cried in no bed", x.wakes(1, -1), 0);
        x = house(pair + "out 0 0 39 60;");
        due("17 out is no noise", x.wakes(1, -1), 0);
        x = house(pair + "noise 2 3 3 15;out 0 0 39 2;");
        due("17 covered: 13 is enough, three deep", x.wakes(1, 0), 310);
        x = house(pair + "noise 2 3 3 15;out 0 0 39 2;out 0 3 3 1;");
        due("17 covered twice", x.wakes(1, -1), 0);
    }

    private static void promise17Snores() {
        OneRoom x = house("bed 1;bed 2;sleeper 60 1 0 11 30;sleeper 60 1 0 11 30;lie 0 0;lie 1 1;");
        due("17 28 is less than 60", x.wakes(1, -1), 0);
        x = house("bed 1;bed 2;sleeper 60 1 0 11 30;sleeper 20 1 0 40 0;lie 0 0;lie 1 1;");
        due("17 both are two deep in 2: 28 is enough", x.wakes(1, 0), 200);
        // asleep again in 5 (in 3 and 4 the other snores on), three deep in 8
        due("17 awake in 3 and 4", x.is(1, 4), 1);
        due("17 asleep in 5", x.is(1, 5), 2);
        due("17 three deep in 8, 32 needed; two deep in 9, 28", x.wakes(1, 1), 900);
        due("17 awake in 10", x.is(1, 10), 1);
        due("17 she is out from 11", x.is(1, 11), 2);
        due("17 no more", x.wakes(1, -1), 2);
        due("17 the one who snores", x.wakes(0, -1), 0);
    }

    /** Of like ones the first: steps, sounds by numbers, snores. */
    private static void promise17Ties() {
        String three = "bed 1;bed 2;bed 3;sleeper 1 1 0 40 0;sleeper 60 1 6 40 0;sleeper 60 1 0 6 0;"
                + "lie 0 1;lie 1 0;lie 2 2;";
        OneRoom x = house(three + "board 1 20;board 2 18;noise 1 6 6 20;");
        // in: board 1 gives 18, board 2 under the bed 18; out from 3 by 2: 18
        due("17 one comes, one goes, one noise alike: the first sleeper", x.wakes(0, 0), 601);
        x = house(three + "board 1 20;noise 1 6 6 21;");
        due("17 the greatest", x.wakes(0, 0), 610);
        x = house(three + "noise 35 0 0 0;noise 1 7 7 30;noise 3 7 7 30;");
        due("17 two sounds alike: the first", x.wakes(0, 0), 711);
        x = house("bed 1;bed 2;sleeper 20 1 0 40 0;sleeper 60 1 0 40 40;lie 0 0;lie 1 1;noise 2 2 2 40;");
        due("17 a sound and a snore alike: the sound", x.wakes(0, 0), 210);
        x = house("bed 1;bed 2;bed 3;sleeper 60 1 0 40 40;sleeper 20 1 0 40 0;sleeper 60 1 0 40 40;"
                + "lie 0 0;lie 1 1;lie 2 2;");
        due("17 two snores alike: the first", x.wakes(1, 0), 200);
    }

    private static void promise18() {
        OneRoom x = house("bed 1;bed 2;sleeper 60 1 0 40 0;sleeper 1 1 0 40 0;sleeper 1 1 0 40 0;lie 0 0;lie 1 1;"
                + "cried 0 3 12 60;noise 2 20 20 60;");
        due("18 three times", x.woke(0, 1), 3);
        due("18 the noise is nobody's", x.wakes(1, -1), 4);
        due("18 not the other way", x.woke(1, 0), 0);
        due("18 who lies in none", x.woke(0, 2), 0);
        due("18 alike", x.woke(1, 1), -2);
        due("18 sleeper 3", x.woke(3, 1), -2);
        due("18 sleeper -1", x.woke(0, -1), -2);
        due("18 far off", x.woke(MOST, LEAST), -2);
        statusIs("18", x, 4, 0, 0);
    }

    private static void promise19() {
        OneRoom x = new OneRoom();
        due("19 nobody", x.night(0), 0);
        due("19 nobody", x.night(1), 0);
        x = house("bed 1;bed 2;sleeper 60 1 0 40 0;sleeper 60 1 10 40 0;lie 0 0;lie 1 1;");
        due("19 worst", x.night(0), 30);
        due("19 good", x.night(1), 70);
        x.sleeper(60, 1, 0, 40, 0);
        due("19 one lies in none", x.night(0), 0);
        due("19 good", x.night(1), 70);
        due("19 what 2", x.night(2), -2);
        due("19 what -1", x.night(-1), -2);
        statusIs("19", x, 2, 0, 0);
    }

    // ---- 20 to 32: what is best

    private static void promise20() {
        OneRoom x = house("bed 14;sleeper 10 1 0 40 0;board 1 40;board 2 30;");
        due("20 nobody lies there: nothing is heard", x.way(0, 3, 0), 0);
        due("20 straight on", x.way(0, 3, 1), 3);
        due("20 by 1", x.way(0, 3, 2), 1);
        x.lie(0, 0);
        // 1 is three steps from 14: 34; 2 is two: 26; so by 6, 7 and 8, 9
        due("20 round about", x.way(0, 3, 0), 0);
        due("20 round about", x.way(0, 3, 1), 5);
        due("20 by 6", x.way(0, 3, 2), 6);
        due("20 the first cell is none of them", x.way(1, 0, 0), 0);
        due("20 the first cell is none of them", x.way(1, 0, 1), 1);
        due("20 the last is", x.way(0, 1, 0), 34);
        due("20 then with the fewest steps", x.way(0, 1, 1), 1);
        due("20 the last is", x.way(3, 2, 0), 26);
        due("20 one cell", x.way(1, 1, 0), 0);
        due("20 one cell", x.way(1, 1, 1), 0);
        due("20 one cell", x.way(1, 1, 2), -1);
        x.wall(6, true);
        due("20 it has to be by 1", x.way(0, 3, 0), 34);
        due("20 as loud already, so by 2 too", x.way(0, 3, 1), 3);
        x.sound(4, 0, 0, 39, 60);
        due("20 without cover", x.way(0, 3, 0), 34);
        x.wall(1, true);
        due("20 not reached", x.way(0, 3, 0), -3);
        due("20 from a wall", x.way(1, 3, 0), -2);
        due("20 to a wall", x.way(3, 1, 0), -2);
        due("20 what 3", x.way(3, 4, 3), -2);
        due("20 what -1", x.way(3, 4, -1), -2);
        due("20 bad ahead of no", x.way(0, 3, 3), -2);
        due("20 36", x.way(36, 3, 0), -2);
        due("20 far off", x.way(LEAST, MOST, 0), -2);
        statusIs("20", x, 7, 1, 0);
        x = new OneRoom();
        due("20 right ahead of down", x.way(0, 7, 2), 1);
        due("20 up ahead of left", x.way(35, 28, 2), 29);
        due("20 up ahead of right", x.way(30, 25, 2), 24);
        due("20 down ahead of left", x.way(5, 10, 2), 11);
    }

    private static void promise21() {
        OneRoom x = house("bed 1;bed 2;sleeper 10 1 0 40 0;");
        due("21 sleeper 1", x.rule(1, 0, true), -2);
        due("21 sleeper -1", x.rule(-1, 0, true), -2);
        due("21 bed 2", x.rule(0, 2, true), -2);
        due("21 bed -1", x.rule(0, -1, false), -2);
        due("21 first", x.rule(0, 0, true), 0);
        due("21 the same", x.rule(0, 0, true), 1);
        due("21 the contrary", x.rule(0, 0, false), 2);
        due("21 fourth", x.rule(0, 1, false), 3);
        due("21 full", x.rule(0, 1, false), -4);
        due("21 bad ahead of full", x.rule(0, 2, false), -2);
        due("21 count", x.count(4), 4);
        statusIs("21", x, 5, 0, 1);
    }

    private static void promise22() {
        OneRoom x = house("bed 1;sleeper 10 1 0 40 0;");
        due("22 none", x.free(), 0);
        x.rule(0, 0, false);
        x.rule(0, 0, false);
        due("22 two", x.free(), 2);
        due("22 none", x.count(4), 0);
        due("22 none holds", x.best(true, 0), 0);
        statusIs("22", x, 0, 0, 0);
    }

    private static void promise23() {
        OneRoom x = house("fade 9;bed 1;bed 35;bed 30;sleeper 20 1 0 40 0;noise 1 0 39 60;");
        due("23 away from the noise", x.best(false, -1), 40);
        due("23 the first such bed", x.best(false, 0), 1);
        due("23 she lies in none still", x.slept(0), 0);
        x.rule(0, 1, false);
        due("23 rules not asked", x.best(false, 0), 1);
        due("23 must not", x.best(true, 0), 2);
        x.rule(0, 0, true);
        due("23 has to", x.best(true, 0), 0);
        due("23 worst", x.best(true, -1), 0);
        x.rule(0, 2, true);
        due("23 no such row", x.best(true, 0), -20);
        due("23 without", x.best(false, 0), 1);
        due("23 sleeper 1", x.best(true, 1), -10);
        due("23 sleeper -2", x.best(false, -2), -10);
        due("23 far off", x.best(false, MOST), -10);
        statusIs("23", x, 3, 1, 0);
        x = house("bed 1;sleeper 20 1 0 40 0;sleeper 20 1 0 40 0;");
        due("23 fewer beds", x.best(false, -1), -20);
        due("23 fewer beds", x.best(true, 1), -20);
        x.bed(2);
        due("23 the first row", x.best(false, 0), 0);
        due("23 unlike beds", x.best(false, 1), 1);
        x = new OneRoom();
        due("23 nobody", x.best(true, -1), 0);
        due("23 nobody", x.best(true, 0), -10);
    }

    /** One who hears all and one who hears little: WORST first, GOOD then. */
    private static void promise23Good() {
        // bed 0 has a noise of 30 in slots 0 to 9; sleeper 1 sleeps 20 at most
        OneRoom x = house("fade 9;bed 1;bed 35;sleeper 10 1 0 40 0;sleeper 60 1 20 40 0;noise 1 0 9 30;");
        due("23 worst in both rows", x.best(false, -1), 20);
        due("23 good is greater in the second row", x.best(false, 0), 1);
        due("23 good is greater in the second row", x.best(false, 1), 0);
        // now the second row would have the greater GOOD, 55, but a lesser WORST, 15
        x = house("fade 9;bed 1;bed 35;sleeper 10 1 0 40 0;sleeper 10 1 20 40 0;noise 1 0 9 30;noise 1 20 24 30;");
        due("23 worst first", x.best(false, -1), 20);
        due("23 worst first", x.best(false, 0), 0);
    }

    private static void promise24() {
        OneRoom x = new OneRoom();
        due("24 nobody", x.cost(), 0);
        x = house("fade 9;bed 1;bed 35;sleeper 20 1 0 40 0;noise 1 0 29 60;");
        due("24 no rules", x.cost(), 0);
        x.rule(0, 0, true);
        due("24 she has to lie by the noise", x.cost(), 30);
        x.rule(0, 1, true);
        due("24 no such row", x.cost(), -3);
        x.free();
        x.sleeper(20, 1, 0, 40, 0);
        x.sleeper(20, 1, 0, 40, 0);
        due("24 fewer beds", x.cost(), -3);
        statusIs("24", x, 0, 2, 0);
    }

    private static void promise25() {
        OneRoom x = new OneRoom();
        due("25 nobody", x.order(-1), -3);
        due("25 nobody", x.order(0), -2);
        x = house("bed 1;bed 2;sleeper 60 1 10 20 0;sleeper 60 1 0 40 0;lie 0 0;lie 1 1;");
        due("25 as it is", x.night(0), 10);
        due("25 worst", x.order(-1), 20);
        due("25 exchanged", x.order(0), 1);
        due("25 exchanged", x.order(1), 0);
        due("25 as it is still", x.night(0), 10);
        due("25 sleeper 2", x.order(2), -2);
        due("25 sleeper -2", x.order(-2), -2);
        statusIs("25", x, 2, 0, 0);
        x = house("bed 1;bed 2;sleeper 60 1 0 40 0;sleeper 60 1 10 40 0;lie 0 0;lie 1 1;");
        due("25 alike: the first row", x.order(0), 0);
        due("25 alike: the first row", x.order(1), 1);
        x = house("bed 1;bed 2;sleeper 60 1 4 5 0;sleeper 60 1 5 40 0;lie 0 0;lie 1 1;");
        due("25 each below her up", x.order(-1), 1);
        due("25 each below her up", x.order(0), 0);
        x = house("bed 1;sleeper 60 1 30 40 0;sleeper 60 1 0 40 0;lie 0 0;");
        due("25 one lies in none", x.order(-1), 0);
        due("25 then by good", x.order(0), 1);
    }

    private static void promise26() {
        OneRoom x = house("bed 1;bed 20;sleeper 10 1 0 40 0;sleeper 60 1 0 40 0;lie 0 0;lie 1 1;noise 1 0 39 14;");
        due("26 wax", x.worth(0, 0), 40);
        due("26 wax for the other", x.worth(0, 1), 0);
        due("26 a fan", x.worth(1, 0), 40);
        due("26 a board", x.worth(2, 35), 0);
        due("26 a ball", x.worth(3, 0), 0);
        due("26 as it is still", x.night(0), 0);
        x = house("bed 1;bed 20;sleeper 10 1 0 40 0;sleeper 60 1 0 40 0;lie 0 0;lie 1 1;noise 1 0 39 15;");
        due("26 a fan of 5 alone", x.worth(1, 0), 0);
        x = house("bed 1;sleeper 10 1 0 40 0;lie 0 0;noise 1 0 39 20;");
        due("26 wax of 10 alone", x.worth(0, 0), 0);
        x = house("bed 1;sleeper 10 1 0 40 0;lie 0 0;noise 1 0 39 19;");
        due("26 wax of 10", x.worth(0, 0), 40);
        x = house("bed 1;sleeper 10 1 0 40 0;lie 0 0;noise 1 0 39 10;");
        due("26 a fan beside none", x.worth(1, 0), 40);
        x = house("fade 0;bed 1;bed 2;sleeper 1 1 2 40 0;sleeper 60 1 0 40 60;lie 0 0;lie 1 1;");
        // she sleeps in three of six slots from 5 on, and with the ball, which is quite still, from 2 on
        due("26 a ball leaves nothing", x.worth(3, 1), 20);
        x = house("bed 1;bed 5;sleeper 10 1 0 40 0;sleeper 60 1 6 40 0;lie 0 0;lie 1 1;board 3 40;");
        due("26 worst is the other's 34", x.worth(2, 3), 0);
        x = house("bed 1;bed 5;sleeper 10 1 0 40 0;sleeper 60 1 6 40 0;lie 0 0;lie 1 1;board 3 40;turned 0 0 39 0;"
                + "noise 1 0 9 60;");
        due("26 worst is hers: 30", x.night(0), 30);
        x = house("bed 1;bed 2;sleeper 20 1 0 40 0;sleeper 60 1 0 40 60;lie 0 0;lie 1 1;");
        // the other snores in 2, 3, 4, 8, 9, 10, ..: the last ones are 38, 39
        due("26 she is awake in 2, 3, 4, ..", x.night(0), 20);
        due("26 a ball for the one who snores", x.worth(3, 1), 20);
        due("26 a ball for her", x.worth(3, 0), 0);
        int[] things = {0, 0, 1, 1, 2, 2, 3, 3, 4, -1, MOST};
        int[] xs = {2, -1, 1, -1, 36, -1, 2, -1, 0, 0, LEAST};
        for (int i = 0; i < things.length; i++) {
            due("26 worth(" + things[i] + ", " + xs[i] + ")", x.worth(things[i], xs[i]), -100);
        }
        statusIs("26", x, things.length, 0, 0);
    }

    private static void promise27() {
        OneRoom x = new OneRoom();
        due("27 no cell creaks", x.screw(), -1);
        x.board(20, 1);
        x.board(9, 1);
        due("27 alike: the least", x.screw(), 9);
        x.wall(9, true);
        due("27 a wall too", x.screw(), 9);
        x.board(9, 0);
        due("27 those that creak", x.screw(), 20);
        statusIs("27", x, 0, 0, 0);
        x = house("bed 1;bed 5;sleeper 1 1 10 40 0;sleeper 60 1 9 40 0;lie 0 0;lie 1 1;board 2 20;board 7 40;");
        due("27 nobody is woken yet", x.screw(), 2);
        x = house("bed 1;bed 5;sleeper 1 1 9 40 0;sleeper 60 1 10 40 0;lie 0 0;lie 1 1;board 2 20;board 1 0;board 7 40;");
        due("27 worst is the other's 30: by good then", x.screw(), 2);
        x = house("bed 1;bed 5;sleeper 1 1 9 40 0;sleeper 60 1 10 40 0;sleeper 1 1 0 40 0;lie 0 0;lie 1 1;"
                + "board 0 40;board 3 20;");
        due("27 worst is 0: by good then", x.screw(), 3);
        // sleeper 0 is asleep in 9, woken in 10 by the board 3, asleep again from 12 on
        x = house("bed 1;bed 5;sleeper 1 2 8 40 0;sleeper 60 1 10 40 0;lie 0 0;lie 1 1;board 0 40;board 3 20;");
        due("27 worst: 29 as it is, 30 with it", x.worth(2, 3), 1);
        due("27 worst: nothing by the other", x.worth(2, 0), 0);
        due("27 by worth", x.screw(), 3);
    }

    private static void promise28() {
        OneRoom x = new OneRoom();
        due("28 nobody", x.rooms(), -3);
        x.sleeper(60, 1, 0, 40, 60);
        due("28 alone", x.rooms(), 0);
        statusIs("28", x, 0, 1, 0);
        String beds = "bed 1;bed 2;bed 3;";
        x = house(beds + "sleeper 60 1 0 40 60;sleeper 5 1 0 40 0;sleeper 60 1 0 40 0;lie 0 0;lie 1 1;lie 2 2;");
        due("28 the second away, the third where it is least", x.rooms(), 2);
        x = house(beds + "sleeper 5 1 0 40 0;sleeper 60 1 0 40 60;sleeper 60 1 0 40 0;lie 0 0;lie 1 1;lie 2 2;");
        due("28 the one who snores away", x.rooms(), 2);
        x = house(beds + "sleeper 60 1 0 40 0;sleeper 60 1 0 40 60;sleeper 5 1 0 40 0;lie 0 0;lie 1 1;lie 2 2;");
        due("28 the last two apart", x.rooms(), 2);
        x = house(beds + "sleeper 60 1 0 40 60;sleeper 5 1 0 40 0;sleeper 5 1 0 40 0;lie 0 0;lie 1 1;lie 2 2;");
        due("28 both away from the first", x.rooms(), 6);
        x = house(beds + "sleeper 60 1 0 40 0;sleeper 5 1 0 40 0;sleeper 5 1 0 40 0;lie 0 0;lie 1 1;lie 2 2;noise 1 7 7 60;");
        due("28 a noise is nobody's", x.rooms(), 0);
    }

    private static void promise29() {
        OneRoom x = house("bed 1;bed 2;sleeper 60 1 20 40 0;sleeper 60 1 16 40 0;sleeper 60 1 0 40 0;lie 0 0;lie 1 1;");
        due("29 20 of 24", x.temper(0, 1), 4);
        due("29 behind three", x.temper(0, 3), 12);
        due("29 behind 14", x.temper(0, 14), 56);
        due("29 behind none", x.temper(0, 0), 0);
        due("29 24 of 24", x.temper(1, 14), 0);
        due("29 in no bed", x.temper(2, 2), 48);
        x.lie(1, -1);
        x.lie(2, 1);
        due("29 more than 24", x.temper(2, 14), 0);
        due("29 15", x.temper(0, 15), -2);
        due("29 -1", x.temper(0, -1), -2);
        due("29 sleeper 3", x.temper(3, 1), -2);
        due("29 sleeper -1", x.temper(-1, 1), -2);
        statusIs("29", x, 4, 0, 0);
    }

    private static void promise30() {
        OneRoom x = house("bed 1;bed 2;bed 3;sleeper 60 1 20 40 0;sleeper 60 1 16 40 0;lie 0 0;lie 1 1;");
        due("30 four a night", x.quarrel(4), 1);
        due("30 the second night", x.quarrel(5), 2);
        due("30 the last", x.quarrel(56), 14);
        due("30 none", x.quarrel(57), -1);
        x.sleeper(60, 1, 17, 40, 0);
        x.lie(2, 2);
        due("30 some two, not three", x.quarrel(6), 2);
        due("30 some two", x.quarrel(5), 1);
        due("30 999", x.quarrel(999), -1);
        due("30 1", x.quarrel(1), 1);
        due("30 0", x.quarrel(0), -2);
        due("30 1000", x.quarrel(1000), -2);
        due("30 far off", x.quarrel(LEAST), -2);
        statusIs("30", x, 3, 0, 0);
        x = house("sleeper 60 1 0 40 0;");
        due("30 one alone", x.quarrel(1), -1);
        due("30 nobody", new OneRoom().quarrel(1), -1);
    }

    private static void promises31And32() {
        OneRoom x = house("sleeper 60 3 2 40 0;sleeper 60 9 0 5 0;");
        due("31 tent", x.tent(0, 10), 1);
        due("32 above", x.part(0), 35);
        due("32 below", x.part(1), 1);
        due("31 half of them", x.tent(0, 5), 1);
        due("32 above", x.part(0), 35);
        due("32 below", x.part(1), 2);
        due("31 three of ten", x.tent(0, 3), 1);
        due("32 above", x.part(0), 21);
        due("32 below", x.part(1), 2);
        due("31 sleeper 2", x.tent(2, 1), -2);
        due("31 sleeper -1", x.tent(-1, 1), -2);
        due("31 a 11", x.tent(0, 11), -2);
        due("31 a -1", x.tent(0, -1), -2);
        due("32 as it was", x.part(0), 21);
        due("31 none dry", x.tent(0, 0), 1);
        due("32 above", x.part(0), 0);
        due("32 below", x.part(1), 1);
        x.tent(0, 7);
        due("32 above", x.part(0), 49);
        due("31 0 at least", x.tent(1, 7), 1);
        due("32 above", x.part(0), 0);
        due("32 below", x.part(1), 1);
        due("32 what 2", x.part(2), -2);
        due("32 what -1", x.part(-1), -2);
        statusIs("31", x, 6, 0, 0);
    }

    // ---- 33 to 37: what there is

    private static void promises33And34() {
        OneRoom x = house("wall 7;board 8 9;fade 3;door 9;bed 10;bed 11;sleeper 10 1 0 40 0;lie 0 1;noise 1 0 39 3;");
        x.rule(0, 1, true);
        long first = x.digest();
        due("33 image", x.image(0), 1);
        due("34 none kept", x.from(1), -3);
        x.wall(7, false);
        x.board(8, 1);
        x.put(0, 1);
        x.put(1, 1);
        x.bed(12);
        x.sleeper(10, 1, 0, 40, 0);
        x.lie(0, 0);
        x.sound(0, 1, 0, 39, 3);
        x.rule(0, 0, false);
        long second = x.digest();
        due("33 the other", x.image(1), 1);
        due("34 from", x.from(0), 1);
        due("34 as it was", x.digest() == first ? 1 : 0, 1);
        due("34 from", x.from(1), 1);
        due("34 as it was then", x.digest() == second ? 1 : 0, 1);
        x.from(0);
        x.board(8, 2);
        due("34 an image stays as it was kept", x.from(0), 1);
        due("34 an image stays as it was kept", x.digest() == first ? 1 : 0, 1);
        due("33 kept anew", x.image(1), 1);
        x.put(0, 0);
        x.from(1);
        due("33 kept anew", x.digest() == first ? 1 : 0, 1);
        x.type(1, 3);
        x.tent(0, 10);
        x.from(0);
        due("34 the text goes on", x.count(5), 3);
        due("34 the fraction goes on", x.part(0), 39);
        due("33 2", x.image(2), -2);
        due("33 -1", x.image(-1), -2);
        due("34 2", x.from(2), -2);
        due("34 -1", x.from(-1), -2);
        statusIs("34", x, 4, 1, 0);
    }

    private static void promise35() {
        OneRoom x = new OneRoom();
        due("35 3", x.status(3), -1);
        due("35 -1", x.status(-1), -1);
        due("35 far off", x.status(MOST), -1);
        due("35 they count as bad", x.status(0), 3);
        x.still();
        x.still();
        x.rooms();
        due("35 no", x.status(1), 3);
        for (int i = 0; i < 8; i++) {
            x.sound(0, 0, 0, 0, 0);
        }
        x.sound(0, 0, 0, 0, 0);
        due("35 full", x.status(2), 1);
        x.distance(0, 0);
        x.screw();
        x.quarrel(1);
        told(x, "wall 0;");
        told(x, "wall");
        due("35 NONE and what house answers is none", x.status(0) + x.status(1) + x.status(2), 7);
    }

    private static void promise36() {
        OneRoom x = house("wall 2;wall 3;bed 1;bed 4;bed 5;sleeper 10 1 0 40 0;noise 1 0 0 0;noise 1 0 0 0;"
                + "noise 1 0 0 0;noise 1 0 0 0;");
        x.rule(0, 0, true);
        x.type(0, 7);
        int[] counts = {2, 3, 1, 4, 1, 7};
        for (int i = 0; i < counts.length; i++) {
            due("36 count(" + i + ")", x.count(i), counts[i]);
        }
        due("36 6", x.count(6), -2);
        due("36 -1", x.count(-1), -2);
        due("36 far off", x.count(LEAST), -2);
        statusIs("36", x, 3, 0, 0);
    }

    private static void promise37() {
        OneRoom x = house("wall 34;board 35 40;fade 7;door 33;bed 10;bed 11;sleeper 12 3 4 39 15;sleeper 10 1 0 40 0;"
                + "lie 0 1;noise 31 2 3 4;cried 1 5 6 7;");
        x.rule(0, 1, true);
        x.rule(1, 1, false);
        x.type(0, 2);
        x.tent(0, 3);
        long h = 587;
        int[] counts = {1, 2, 2, 2, 2, 2};
        for (int v : counts) {
            h = 31 * h + v;
        }
        for (int c = 0; c < 36; c++) {
            h = 31 * h + (c == 34 ? 1 : 0);
            h = 31 * h + (c == 35 ? 40 : 0);
        }
        int[] rest = {7, 33, 10, 11, 12, 3, 4, 39, 15, 1, 10, 1, 0, 40, 0, -1, 0, 31, 2, 3, 4, 1, 1, 5, 6, 7, 0, 1, 1,
            1, 1, 0, 48, 5};
        for (int v : rest) {
            h = 31 * h + v;
        }
        due("37 digest", x.digest(), h);
        x.status(9);
        x.image(1);
        due("37 neither status nor images", x.digest(), h);
    }

    public static void main(String[] args) {
        promise1();
        promise2();
        promise3();
        promise4();
        promise5();
        promise6();
        promise7();
        promise8();
        promise9();
        promise10();
        promise11();
        promise12();
        promise12Tokens();
        promise12Items();
        promise13();
        promise14();
        promise15();
        promise16();
        promise16Deep();
        promise17();
        promise17Steps();
        promise17Kinds();
        promise17Snores();
        promise17Ties();
        promise18();
        promise19();
        promise20();
        promise21();
        promise22();
        promise23();
        promise23Good();
        promise24();
        promise25();
        promise26();
        promise27();
        promise28();
        promise29();
        promise30();
        promises31And32();
        promises33And34();
        promise35();
        promise36();
        promise37();
        System.out.println(wrong == 0 ? asked + " answers by hand as due" : wrong + " of " + asked + " are not as due");
        if (wrong != 0) {
            System.exit(1);
        }
    }
}
