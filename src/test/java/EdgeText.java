/** THE TEXT: its bytes, its TOKENS, each FAULT, each ITEM that is refused, and what a house told anew keeps. */
public final class EdgeText {
    private static final String[] ITEMS = {"wall 7;", "board 7 40;", "fade 9;", "door 7;", "bed 7;", "sleeper 60 9 39 40 60;",
        "lie 0 0;", "noise 35 0 39 60;", "cried 0 0 39 60;", "turned 0 0 39 60;", "rung 0 0 39 60;", "out 0 0 39 60;"};

    /** The FAULT of this one, on a new object and on one with a house, that changes nothing and counts nowhere. */
    private static void fault(String text, int place) {
        Check.asks("fault of '" + text + "'", () -> {
            OneRoom x = Check.lived();
            Check.write(x, text);
            return x;
        }, x -> x.house(), -10 - place);
    }

    private static void refused(String text, int item) {
        Check.asks("refused in '" + text + "'", () -> {
            OneRoom x = Check.lived();
            Check.write(x, text);
            return x;
        }, x -> x.house(), -1000 - item);
    }

    private static void told(String text, int items) {
        OneRoom x = new OneRoom();
        Check.due("items of '" + text + "'", Check.told(x, text), items);
        OneRoom y = Check.lived();
        Check.due("items of '" + text + "' told anew", Check.told(y, text), items);
        // the fraction stays as it was: both have the like one, by a sleeper that both get in a house of blanks
        x.image(0);
        y.image(0);
        for (OneRoom each : new OneRoom[] {x, y}) {
            Check.told(each, " ");
            each.sleeper(1, 1, 0, 1, 0);
            each.tent(0, 0);
            each.from(0);
        }
        Check.due("'" + text + "' tells the same, whatever was", y.digest(), x.digest());
    }

    // ---- bytes

    private static void bytes() {
        OneRoom x = new OneRoom();
        for (int n = 1; n <= 8; n++) {
            x.clear();
            // only the lowest n bytes: all above are letters that would be a fault at 0
            long v = 0x2020202020206564L;
            for (int i = n; i < 8; i++) {
                v = v & ~(255L << 8 * i) | (long) 'z' << 8 * i;
            }
            Check.due("type " + n, x.type(v, n), n);
            Check.due("the word at the end of " + n + " bytes is none", x.house(), -10 - Math.max(0, n - 2));
        }
        x.clear();
        x.type('b', 1);
        x.type(0x6564L, 2);
        x.type(0x20373bL, 3);
        Check.due("bytes of three calls are one text", x.house(), 1);
        Check.due("bed 7", x.bed(7), -2);
        x.clear();
        x.type(0x6265643b626564L, 7);
        Check.due("the highest first", x.house(), -13);
        x.clear();
        x.type(0x6265_6437_3b62_6564L, 8);
        x.type(~0xffffL | 0x383bL, 2);
        Check.due("of a v below 0", x.house(), 2);
        Check.due("bed 8", x.bed(8), -2);
    }

    /** What one byte is, at each place where a token may end. */
    private static void eachByte() {
        for (int c = 0; c < 256; c++) {
            String s = String.valueOf((char) c);
            boolean figure = c >= '0' && c <= '9', letter = c >= 'a' && c <= 'z', blank = c == 32;
            if (blank) {
                told(s, 0);
                told("bed 1;" + s, 1);
            } else {
                fault(s, 0);
                fault("bed 1;" + s, 6);
                fault(s + "bed 1;", 0);
            }
            fault("bed" + s, figure || blank ? 4 : letter ? 0 : 3);
            fault("bed " + s, figure || blank ? 5 : 4);
            if (c == ';') {
                told("bed 1" + s, 1);
                fault("bed 1;" + s, 6);
            } else {
                fault("bed 1" + s, figure || blank ? 6 : 5);
                fault("bed 1 " + s, blank ? 7 : 6);
            }
            fault("bed 12" + s + "3;", figure ? 4 : blank || c == ';' ? 7 : 6);
            fault("board 3" + s, figure || blank ? 8 : 7);
        }
    }

    // ---- tokens

    private static void words() {
        for (String item : ITEMS) {
            String word = item.substring(0, item.indexOf(' '));
            for (int n = 1; n < word.length(); n++) {
                fault(word.substring(0, n), 0);
                fault(word.substring(0, n) + item.substring(word.length()), 0);
                fault(word.substring(n) + item.substring(word.length()), 0);
            }
            for (char c : new char[] {'a', 's', 'z'}) {
                fault(word + c + item.substring(word.length()), 0);
                fault(c + item, 0);
            }
            fault(Character.toUpperCase(word.charAt(0)) + item.substring(1), 0);
            fault(word + word + item.substring(word.length()), 0);
            fault(word + " " + item, word.length() + 1);
            fault("fade 1;" + word + word, 7);
            fault("fade 1;  " + word + "x 1;", 9);
        }
        String blanks = "  bed   7  ;  ";
        told(blanks, 1);
        told("bed7;", 1);
        told("bed 07;", 1);
        told("bed 00;", 1);
        told("board7 9;", 1);
        told("board07 09;", 1);
        told("board 7 9;bed9;", 2);
        told("bed7 ;bed 8; bed9;", 3);
        fault("board79;", 7);
        fault("board 79;", 8);
        fault("bed;7", 3);
        fault("7bed;", 0);
        fault("be d7;", 0);
    }

    private static void figures() {
        told("wall 1;", 1);
        told("wall 10;", 1);
        fault("wall 100;", 5);
        fault("wall 001;", 5);
        fault("wall 000;", 5);
        fault("wall 1000;", 5);
        fault("wall100;", 4);
        fault("wall " + "7".repeat(295), 5);
        fault("board 1 100;", 8);
        fault("board 100 1;", 6);
        fault("sleeper 1 2 3 4 555;", 16);
        fault("777", 0);
        fault("wall 1;777", 7);
        fault("wall 1 777", 7);
        fault("wall 1777", 5);
        OneRoom x = new OneRoom();
        Check.due("two figures are one number", Check.told(x, "board 12 34;"), 1);
        Check.due("34", x.board(12, 0), 34);
        Check.due("with 0 ahead", Check.told(x, "board 02 04;"), 1);
        Check.due("4", x.board(2, 0), 4);
    }

    /** Each item, cut off behind each of its bytes, and with one number less or more. */
    private static void cut() {
        for (String item : ITEMS) {
            for (int n = 1; n < item.length(); n++) {
                int word = item.indexOf(' ');
                fault(item.substring(0, n), n < word ? 0 : n);
                fault("fade 1; " + item.substring(0, n) + "  ", n < word ? 8 : n + 10);
            }
            String bare = item.substring(0, item.length() - 1);
            fault(bare + " 1;", bare.length() + 1);
            int last = bare.lastIndexOf(' ');
            fault(bare.substring(0, last) + ";", last);
            fault(bare.substring(0, last) + " ;", last + 1);
            fault(bare + "  x", bare.length() + 2);
            fault(item + ";", item.length());
        }
    }

    private static void tooEarly() {
        told("", 0);
        told(" ", 0);
        told("        ", 0);
        fault("bed", 3);
        fault("bed ", 4);
        fault("bed 1", 5);
        fault("bed 1 ", 6);
        fault("bed 1;bed", 9);
        fault(" bed", 4);
        fault("sleeper 1 2 3 4", 15);
        fault("sleeper 1 2 3 4 ", 16);
        fault("sleeper 1 2 3 4 5", 17);
        // what stood in THE TEXT ahead of clear is no part of it
        for (String item : ITEMS) {
            OneRoom x = new OneRoom();
            int word = item.indexOf(' ');
            for (int n = 1; n < item.length(); n++) {
                Check.write(x, item);
                x.clear();
                for (int i = 0; i < n; i++) {
                    x.type(item.charAt(i), 1);
                }
                Check.due("no more than is typed of " + item, x.house(), -10 - (n < word ? 0 : n));
            }
        }
        OneRoom x = new OneRoom();
        Check.write(x, "bed 1;bed 2;bed 3;");
        x.clear();
        Check.due("empty again", x.house(), 0);
        Check.due("no bed", x.count(1), 0);
    }

    // ---- items

    private static void refusedItems() {
        String one = "sleeper 1 1 0 1 0;";
        String[] bad = {"wall 36;", "wall 99;", "wall 0;", "door 7;wall 7;", "bed 7;wall 7;", "wall 7;wall 7;", "board 36 0;",
            "board 35 41;", "board 99 99;", "fade 10;", "fade 99;", "door 36;", "wall 7;door 7;", "bed 36;", "wall 7;bed 7;",
            "bed 7;bed 7;", "bed 99;"};
        for (String s : bad) {
            refused(s, s.indexOf(';') == s.length() - 1 ? 0 : 1);
        }
        told("wall 35;board 35 40;board 0 0;fade 0;fade 9;door 34;bed 34;wall 0;bed 33;", 9);
        told("wall 7;board 7 1;board 7 2;door 0;door 1;bed 1;fade 2;fade 2;", 8);
        String[] sleepers = {"0 1 0 40 0", "61 1 0 40 0", "1 0 0 40 0", "1 10 0 40 0", "1 1 40 40 0", "1 1 40 41 0", "1 1 0 41 0",
            "1 1 0 0 0", "1 1 7 7 0", "1 1 7 6 0", "1 1 0 40 61", "99 99 99 99 99"};
        for (String s : sleepers) {
            refused("sleeper " + s + ";", 0);
            refused(one + "sleeper " + s + ";", 1);
        }
        told("sleeper 1 1 0 1 0;sleeper 60 9 39 40 60;sleeper 1 1 0 40 0;", 3);
        refused("lie 0 0;", 0);
        refused("bed 7;lie 0 0;", 1);
        refused(one + "lie 0 0;", 1);
        refused("bed 7;" + one + "lie 1 0;", 2);
        refused("bed 7;" + one + "lie 0 1;", 2);
        refused("bed 7;" + one + one + "lie 0 0;lie 1 0;", 4);
        told("bed 7;bed 8;" + one + one + "lie 0 0;lie 0 0;lie 0 1;lie 1 0;", 8);
    }

    private static void refusedSounds() {
        String one = "sleeper 1 1 0 1 0;";
        String[] kinds = {"noise", "cried", "turned", "rung", "out"};
        for (int k = 0; k < kinds.length; k++) {
            String[] rest = {" 0 0 40 1;", " 0 40 40 1;", " 0 7 6 1;", " 0 0 39 61;", " 36 0 39 1;"};
            for (String r : rest) {
                refused(one + kinds[k] + r, 1);
            }
            told(one + kinds[k] + " 0 0 39 60;" + kinds[k] + " 0 0 0 0;" + kinds[k] + " 0 39 39 0;", 4);
            if (k == 0) {
                told("noise 35 0 39 60;", 1);
            } else {
                refused(one + kinds[k] + " 1 0 39 1;", 1);
            }
            if (k > 0 && k < 4) {
                refused(kinds[k] + " 0 0 39 1;" + one, 0);
            }
            OneRoom x = new OneRoom(), y = new OneRoom();
            Check.due("told", Check.told(x, one + kinds[k] + " 0 3 9 7;"), 2);
            x.clear();
            y.sleeper(1, 1, 0, 1, 0);
            y.sound(k, 0, 3, 9, 7);
            Check.due(kinds[k] + " is kind " + k, x.digest(), y.digest());
        }
    }

    /** The first that is refused, though others are too; a FAULT anywhere goes ahead. */
    private static void whichFirst() {
        refused("wall 0;bed 36;fade 10;", 0);
        refused("fade 1;bed 36;fade 10;", 1);
        refused("fade 1;fade 2;fade 10;fade 11;", 2);
        fault("wall 0;bed", 10);
        fault("wall 0;beds 1;", 7);
        fault("bed 1;;fade 10;", 6);
        fault("fade 10;bed 100;", 12);
        refused("lie 0 0;sleeper 1 1 0 1 0;bed 7;", 0);
        refused("sleeper 1 1 0 1 0;lie 0 0;bed 7;", 1);
        told("bed 7;sleeper 1 1 0 1 0;lie 0 0;", 3);
        told("door 5;wall 0;", 2);
        refused("wall 0;door 5;", 0);
        refused("wall 5;door 5;", 1);
        refused("door 5;wall 5;", 1);
    }

    // ---- all anew

    private static void anew() {
        OneRoom x = new OneRoom();
        for (int c = 0; c < 36; c++) {
            x.board(c, 1 + c);
        }
        x.put(1, 14);
        x.put(0, 9);
        for (int c = 0; c < 36; c++) {
            if (c % 7 != 0) {
                x.wall(c, true);
            }
        }
        x.bed(0);
        x.bed(35);
        x.sleeper(10, 1, 0, 40, 5);
        x.lie(0, 0);
        x.sound(0, 7, 0, 39, 9);
        x.rule(0, 1, false);
        // these use a house of their own: nothing of it is left either
        x.worth(0, 0);
        x.worth(3, 0);
        x.worth(2, 7);
        Check.due("the empty text", x.house(), 0);
        Check.due("as at first", x.digest(), new OneRoom().digest());
        for (int i = 0; i <= 5; i++) {
            Check.due("count(" + i + ")", x.count(i), 0);
        }
        for (int c = 0; c < 36; c++) {
            Check.due("no creak of " + c, x.board(c, 0), 0);
        }
        Check.due("fade as at first", x.put(0, 2), 2);
        Check.due("door as at first", x.put(1, 0), 0);
        Check.due("nobody", x.lie(0, -1), -10);
    }

    /** Six beds, five sleepers, eight sounds that are told are those that come by calls. */
    private static void fullHouse() {
        OneRoom x = new OneRoom();
        StringBuilder s = new StringBuilder();
        for (int i = 0; i < 6; i++) {
            x.bed(30 + i);
            s.append("bed").append(30 + i).append(';');
        }
        for (int i = 0; i < 5; i++) {
            x.sleeper(60 - i, 9 - i, i, 40 - i, i);
            s.append("sleeper").append(60 - i).append(' ').append(9 - i).append(' ').append(i).append(' ').append(40 - i).append(' ')
                    .append(i).append(';');
            x.lie(i, 5 - i);
            s.append("lie").append(i).append(' ').append(5 - i).append(';');
        }
        for (int i = 0; i < 8; i++) {
            x.sound(0, 10 + i, i, 20 + i, 40 + i);
            s.append("noise").append(10 + i).append(' ').append(i).append(' ').append(20 + i).append(' ').append(40 + i).append(';');
        }
        long full = x.digest();
        OneRoom y = new OneRoom();
        Check.due("all are told", Check.told(y, s.toString()), 24);
        y.clear();
        Check.due("a full house as by its calls", y.digest(), full);
        y.image(0);
        for (int i = 0; i < 8; i++) {
            y.still();
        }
        for (int i = 0; i < 8; i++) {
            y.sound(4, 0, 1, 2, 3);
        }
        Check.due("other sounds", y.digest() == full ? 1 : 0, 0);
        y.from(0);
        Check.due("all eight sounds were kept", y.digest(), full);
    }

    private static void whatStays() {
        OneRoom x = Check.lived();
        long[] was = Check.state(x);
        Check.due("the fraction of the test: 7 of 10 dry, 25 slots", x.part(0), 35);
        Check.due("below", x.part(1), 2);
        Check.write(x, "fade 4;");
        Check.due("told", x.house(), 1);
        Check.due("the text stays", x.count(5), 7);
        Check.due("told once more", x.house(), 1);
        Check.due("the fraction stays", x.part(0), 35);
        Check.due("below", x.part(1), 2);
        for (int i = 0; i < 3; i++) {
            Check.due("status stays", x.status(i), was[i + 1]);
        }
        Check.due("the image stays", x.from(0), 1);
        Check.due("four beds", x.count(1), 4);
        Check.due("three sleepers", x.count(2), 3);
        Check.due("no rules were kept in it", x.count(4), 0);
        Check.due("the other was none", x.from(1), -3);
    }

    public static void main(String[] args) {
        bytes();
        eachByte();
        words();
        figures();
        cut();
        tooEarly();
        refusedItems();
        refusedSounds();
        whichFirst();
        anew();
        fullHouse();
        whatStays();
        Check.end("the text");
    }
}
