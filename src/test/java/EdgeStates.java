import java.util.function.Supplier;

/** Each call in an empty house and in a full one: no bed, nobody, no sound, no rule, no text; 6, 5, 8, 4, 300. */
public final class EdgeStates {
    // ---- empty

    private static void newCells() {
        Supplier<OneRoom> none = OneRoom::new;
        Check.due("wall", new OneRoom().wall(35, true), 1);
        Check.no("no wall", none, x -> x.wall(35, false));
        Check.bad("wall at the door", none, x -> x.wall(0, true));
        Check.bad("no wall at the door", none, x -> x.wall(0, false));
        Check.asks("board as it is", none, x -> x.board(35, 0), 0);
        Check.asks("fade as it is", none, x -> x.put(0, 2), 2);
        Check.asks("door as it is", none, x -> x.put(1, 0), 0);
        Check.due("the first bed", new OneRoom().bed(0), 0);
        Check.due("the first sleeper", new OneRoom().sleeper(1, 1, 0, 1, 0), 0);
        Check.due("the first sound", new OneRoom().sound(0, 0, 0, 0, 0), 0);
        Check.due("the first out", new OneRoom().sound(4, 0, 0, 0, 0), 0);
        for (int kind = 1; kind <= 3; kind++) {
            int k = kind;
            Check.bad("a sound of nobody", none, x -> x.sound(k, 0, 0, 39, 1));
        }
        Check.refused("nobody lies", none, x -> x.lie(0, -1), -2, -10);
        Check.refused("nobody lies in no bed", none, x -> x.lie(0, 0), -2, -10);
        Check.no("still", none, x -> x.still());
        Check.asks("clear", none, x -> x.clear(), 0);
        Check.asks("house", none, x -> x.house(), 0);
        Check.due("type", new OneRoom().type(0, 1), 1);
        Check.asks("distance", none, x -> x.distance(0, 35), 10);
        Check.asks("distance there", none, x -> x.distance(35, 35), 0);
        Check.asks("heard", none, x -> x.heard(0, 60, 35, 39), 40);
    }

    private static void newAsked() {
        Supplier<OneRoom> none = OneRoom::new;
        Check.bad("slept", none, x -> x.slept(0));
        Check.bad("is", none, x -> x.is(0, 0));
        Check.refused("wakes", none, x -> x.wakes(0, -1), -2, -10);
        Check.refused("wakes", none, x -> x.wakes(0, 0), -2, -10);
        Check.bad("woke", none, x -> x.woke(0, 1));
        Check.asks("worst", none, x -> x.night(0), 0);
        Check.asks("good", none, x -> x.night(1), 0);
        Check.asks("way: heard", none, x -> x.way(0, 35, 0), 0);
        Check.asks("way: steps", none, x -> x.way(0, 35, 1), 10);
        Check.asks("way: cell", none, x -> x.way(0, 35, 2), 1);
        Check.bad("rule", none, x -> x.rule(0, 0, true));
        Check.asks("free", none, x -> x.free(), 0);
        Check.asks("best", none, x -> x.best(false, -1), 0);
        Check.asks("best with rules", none, x -> x.best(true, -1), 0);
        Check.refused("best of one", none, x -> x.best(false, 0), -2, -10);
        Check.refused("best of one with rules", none, x -> x.best(true, 0), -2, -10);
        Check.asks("cost", none, x -> x.cost(), 0);
        Check.no("order", none, x -> x.order(-1));
        Check.bad("order of one", none, x -> x.order(0));
        Check.refused("wax", none, x -> x.worth(0, 0), -2, -100);
        Check.asks("fan", none, x -> x.worth(1, 0), 0);
        Check.asks("board", none, x -> x.worth(2, 0), 0);
        Check.refused("ball", none, x -> x.worth(3, 0), -2, -100);
        Check.asks("screw", none, x -> x.screw(), -1);
        Check.no("rooms", none, x -> x.rooms());
        Check.bad("temper", none, x -> x.temper(0, 0));
        Check.asks("quarrel", none, x -> x.quarrel(1), -1);
        Check.bad("tent", none, x -> x.tent(0, 10));
        Check.asks("above", none, x -> x.part(0), 0);
        Check.asks("below", none, x -> x.part(1), 1);
        Check.no("from 0", none, x -> x.from(0));
        Check.no("from 1", none, x -> x.from(1));
        for (int i = 0; i <= 5; i++) {
            int what = i;
            Check.asks("count", none, x -> x.count(what), 0);
        }
        for (int i = 0; i <= 2; i++) {
            int what = i;
            Check.asks("status", none, x -> x.status(what), 0);
        }
    }

    private static OneRoom sleepersAlone() {
        return Check.house("sleeper 10 1 0 40 60;sleeper 20 9 3 9 0;noise 0 0 39 60;cried 0 0 39 60;turned 1 0 39 60;"
                + "rung 1 0 39 60;board 1 40;");
    }

    /** Sleepers and sounds, but no bed. */
    private static void noBed() {
        Supplier<OneRoom> house = EdgeStates::sleepersAlone;
        for (int s = 0; s < 2; s++) {
            int who = s;
            Check.asks("no bed: she lies in none", house, x -> x.lie(who, -1), -1);
            Check.refused("no bed: 0 is none", house, x -> x.lie(who, 0), -2, -10);
            Check.asks("no bed: slept", house, x -> x.slept(who), 0);
            for (int slot = 0; slot < 40; slot++) {
                int t = slot;
                Check.due("no bed: is", sleepersAlone().is(who, t), 0);
            }
            Check.asks("no bed: wakes", house, x -> x.wakes(who, -1), 0);
            Check.asks("no bed: wakes", house, x -> x.wakes(who, 0), -5);
            Check.asks("no bed: woke", house, x -> x.woke(who, 1 - who), 0);
            Check.refused("no bed: best", house, x -> x.best(false, who), -3, -20);
            Check.refused("no bed: best with rules", house, x -> x.best(true, who), -3, -20);
            Check.asks("no bed: order is the first row", house, x -> x.order(who), who);
            Check.asks("no bed: wax", house, x -> x.worth(0, who), 0);
            Check.asks("no bed: ball", house, x -> x.worth(3, who), 0);
            Check.asks("no bed: temper", house, x -> x.temper(who, 14), 336);
            Check.bad("no bed: rule", house, x -> x.rule(who, 0, true));
        }
        Check.asks("no bed: worst", house, x -> x.night(0), 0);
        Check.asks("no bed: good", house, x -> x.night(1), 0);
        Check.asks("no bed: way", house, x -> x.way(0, 2, 0), 0);
        Check.asks("no bed: way goes straight", house, x -> x.way(0, 2, 1), 2);
        Check.refused("no bed: best", house, x -> x.best(false, -1), -3, -20);
        Check.no("no bed: cost", house, x -> x.cost());
        Check.asks("no bed: order", house, x -> x.order(-1), 0);
        Check.asks("no bed: fan", house, x -> x.worth(1, 0), 0);
        Check.asks("no bed: board", house, x -> x.worth(2, 1), 0);
        Check.asks("no bed: screw", house, x -> x.screw(), 1);
        Check.asks("no bed: rooms", house, x -> x.rooms(), 0);
        Check.asks("no bed: quarrel, two times 24", house, x -> x.quarrel(48), 1);
        Check.asks("no bed: quarrel", house, x -> x.quarrel(49), 2);
        Check.asks("no bed: quarrel", house, x -> x.quarrel(14 * 48), 14);
        Check.asks("no bed: quarrel", house, x -> x.quarrel(14 * 48 + 1), -1);
    }

    /** Beds and sounds, but nobody. */
    private static void nobody() {
        Supplier<OneRoom> house = () -> Check.house("bed 1;bed 35;noise 1 0 39 60;out 0 0 39 1;board 1 9;board 0 40;");
        Check.asks("nobody: worst", house, x -> x.night(0), 0);
        Check.asks("nobody: good", house, x -> x.night(1), 0);
        Check.asks("nobody: best", house, x -> x.best(false, -1), 0);
        Check.asks("nobody: best with rules", house, x -> x.best(true, -1), 0);
        Check.refused("nobody: best of one", house, x -> x.best(true, 0), -2, -10);
        Check.asks("nobody: cost", house, x -> x.cost(), 0);
        Check.no("nobody: order", house, x -> x.order(-1));
        Check.no("nobody: rooms", house, x -> x.rooms());
        Check.asks("nobody: quarrel", house, x -> x.quarrel(1), -1);
        Check.asks("nobody: fan", house, x -> x.worth(1, 0), 0);
        Check.asks("nobody: board", house, x -> x.worth(2, 0), 0);
        Check.asks("nobody: screw is the least that creaks", house, x -> x.screw(), 0);
        Check.asks("nobody: way", house, x -> x.way(0, 1, 0), 0);
        Check.asks("nobody: still", house, x -> x.free(), 0);
        Check.refused("nobody: lie", house, x -> x.lie(0, 0), -2, -10);
        Check.refused("nobody: lie in none", house, x -> x.lie(0, -1), -2, -10);
    }

    // ---- full

    private static OneRoom beds(int n) {
        OneRoom x = new OneRoom();
        for (int i = 0; i < n; i++) {
            Check.due("bed " + i + " is let in", x.bed(35 - i), i);
        }
        return x;
    }

    private static OneRoom sleepers(int n) {
        OneRoom x = new OneRoom();
        for (int i = 0; i < n; i++) {
            Check.due("sleeper " + i + " is let in", x.sleeper(10, 1, i, 40, 7), i);
        }
        return x;
    }

    private static OneRoom sounds(int n, int kind) {
        OneRoom x = sleepers(1);
        for (int i = 0; i < n; i++) {
            Check.due("sound " + i + " is let in", x.sound(kind, 0, i, 39, 7), i);
        }
        return x;
    }

    private static OneRoom rules(int n, boolean has) {
        OneRoom x = sleepers(2);
        x.bed(7);
        for (int i = 0; i < n; i++) {
            Check.due("rule " + i + " is let in", x.rule(i % 2, 0, has), i);
        }
        return x;
    }

    private static void fullOfBeds() {
        Check.full("a seventh bed", () -> beds(6), x -> x.bed(0));
        Check.full("a seventh bed", () -> beds(6), x -> x.bed(29));
        Check.bad("a seventh bed at the sixth", () -> beds(6), x -> x.bed(30));
        Check.bad("a seventh bed nowhere", () -> beds(6), x -> x.bed(36));
        Supplier<OneRoom> walled = () -> {
            OneRoom x = beds(6);
            x.wall(5, true);
            return x;
        };
        Check.bad("a seventh bed in a wall", walled, x -> x.bed(5));
        Check.due("six beds", beds(6).count(1), 6);
        OneRoom x = beds(5);
        x.image(0);
        Check.due("the sixth", x.bed(1), 5);
        Check.due("the seventh", x.bed(2), -4);
        x.from(0);
        Check.due("the sixth from an image of five", x.bed(2), 5);
        Check.due("told anew", x.house(), 0);
        Check.due("the first told anew", x.bed(2), 0);
        Check.due("six are told", Check.told(x, "bed 0;bed 1;bed 2;bed 3;bed 4;bed 5;"), 6);
        Check.due("the seventh", x.bed(6), -4);
        Check.due("seven are not told", Check.told(x, "bed 0;bed 1;bed 2;bed 3;bed 4;bed 5;bed 6;"), -1006);
        Check.due("full three times", x.status(2), 2);
    }

    private static void fullOfSleepers() {
        Check.full("a sixth sleeper", () -> sleepers(5), x -> x.sleeper(10, 1, 0, 40, 7));
        Check.full("a sixth sleeper", () -> sleepers(5), x -> x.sleeper(60, 9, 39, 40, 60));
        Check.bad("a sixth one who hears nothing", () -> sleepers(5), x -> x.sleeper(61, 1, 0, 40, 7));
        Check.bad("a sixth one with again 0", () -> sleepers(5), x -> x.sleeper(1, 0, 0, 40, 7));
        Check.bad("a sixth one with goes 40", () -> sleepers(5), x -> x.sleeper(1, 1, 40, 40, 7));
        Check.bad("a sixth one with up as goes", () -> sleepers(5), x -> x.sleeper(1, 1, 7, 7, 7));
        Check.bad("a sixth one who snores 61", () -> sleepers(5), x -> x.sleeper(1, 1, 0, 40, 61));
        Check.due("five sleepers", sleepers(5).count(2), 5);
        OneRoom x = sleepers(4);
        x.image(1);
        Check.due("the fifth", x.sleeper(1, 1, 0, 1, 0), 4);
        Check.due("the sixth", x.sleeper(1, 1, 0, 1, 0), -4);
        x.from(1);
        Check.due("the fifth from an image of four", x.sleeper(1, 1, 0, 1, 0), 4);
        String one = "sleeper 1 1 0 1 0;";
        Check.due("five are told", Check.told(x, one.repeat(5)), 5);
        Check.due("the sixth", x.sleeper(1, 1, 0, 1, 0), -4);
        Check.due("six are not told", Check.told(x, one.repeat(6)), -1005);
        Check.due("full twice", x.status(2), 2);
    }

    private static void fullOfSounds() {
        for (int kind = 0; kind <= 4; kind++) {
            int k = kind;
            for (int other = 0; other <= 4; other++) {
                int o = other;
                Check.full("a ninth sound", () -> sounds(8, k), x -> x.sound(o, 0, 0, 39, 60));
            }
            Check.bad("a ninth sound of v 61", () -> sounds(8, k), x -> x.sound(k, 0, 0, 39, 61));
            Check.bad("a ninth sound of b 40", () -> sounds(8, k), x -> x.sound(k, 0, 0, 40, 60));
            Check.bad("a ninth sound of a 40", () -> sounds(8, k), x -> x.sound(k, 0, 40, 40, 60));
            Check.bad("a ninth sound of b below a", () -> sounds(8, k), x -> x.sound(k, 0, 7, 6, 60));
            Check.bad("a ninth sound at no such x", () -> sounds(8, k), x -> x.sound(k, 36, 0, 39, 60));
            Check.due("eight sounds", sounds(8, k).count(3), 8);
            OneRoom x = sounds(8, k);
            for (int i = 8; i > 0; i--) {
                Check.due("still", x.still(), 1);
                Check.due("so many are left", x.count(3), i - 1);
            }
            Check.due("none is left", x.still(), -3);
            Check.due("no once", x.status(1), 1);
            Check.due("the first again", x.sound(0, 0, 0, 0, 0), 0);
        }
        Check.bad("a ninth sound of kind 5", () -> sounds(8, 0), x -> x.sound(5, 0, 0, 39, 60));
        Check.bad("a ninth sound of nobody", () -> sounds(8, 0), x -> x.sound(1, 1, 0, 39, 60));
        OneRoom x = sounds(8, 0);
        Check.due("still", x.still(), 1);
        Check.due("the eighth again", x.sound(4, 0, 0, 0, 0), 7);
        Check.due("full again", x.sound(4, 0, 0, 0, 0), -4);
        Check.due("eight are told", Check.told(x, "out 0 0 0 0;".repeat(8)), 8);
        Check.due("full as told", x.sound(4, 0, 0, 0, 0), -4);
        Check.due("nine are not told", Check.told(x, "out 0 0 0 0;".repeat(9)), -1008);
    }

    private static void fullOfRules() {
        for (int i = 0; i < 2; i++) {
            boolean has = i == 0;
            Check.full("a fifth rule", () -> rules(4, has), x -> x.rule(0, 0, true));
            Check.full("a fifth rule", () -> rules(4, has), x -> x.rule(1, 0, false));
            Check.bad("a fifth rule for nobody", () -> rules(4, has), x -> x.rule(2, 0, true));
            Check.bad("a fifth rule of no bed", () -> rules(4, has), x -> x.rule(0, 1, true));
            Check.due("four rules", rules(4, has).count(4), 4);
            OneRoom x = rules(4, has);
            Check.due("four are gone", x.free(), 4);
            Check.due("none is gone", x.free(), 0);
            Check.due("no rules", x.count(4), 0);
            Check.due("the first again", x.rule(0, 0, has), 0);
        }
        OneRoom x = rules(4, true);
        Check.due("told anew", x.house(), 0);
        Check.due("no rules", x.count(4), 0);
        OneRoom y = rules(4, true);
        y.clear();
        y.type(0x6265643100L >> 8, 4);
        Check.due("a house that is told too short", y.house(), -14);
        Check.due("the rules stand", y.count(4), 4);
    }

    /** A text of so many blanks. */
    private static OneRoom text(int n) {
        OneRoom x = new OneRoom();
        for (int i = 0; i < n; i++) {
            Check.due("byte " + i + " is let in", x.type(32, 1), i + 1);
        }
        return x;
    }

    private static void fullOfText() {
        Check.full("a byte beside 300", () -> text(300), x -> x.type(32, 1));
        for (int n = 1; n <= 8; n++) {
            int bytes = n;
            Check.due("just 300 by " + n, text(300 - n).type(0, n), 300);
            Check.full("301 by " + n, () -> text(301 - bytes), x -> x.type(0, bytes));
            Check.full("300 and " + n, () -> text(300), x -> x.type(0, bytes));
        }
        Check.bad("no byte beside 300", () -> text(300), x -> x.type(32, 0));
        Check.bad("nine bytes beside 300", () -> text(300), x -> x.type(32, 9));
        Check.bad("nine bytes beside 291", () -> text(291), x -> x.type(32, 9));
        OneRoom x = text(300);
        Check.due("300 blanks tell no item", x.house(), 0);
        Check.due("300 bytes", x.count(5), 300);
        Check.due("300 are gone", x.clear(), 300);
        Check.due("none is gone", x.clear(), 0);
        Check.due("the first again", x.type(';', 1), 1);
        Check.due("none of the blanks is left", x.house(), -10);
    }

    // ---- all of it full

    /** Six beds in a row, five sleepers, eight sounds, four rules, 300 bytes. */
    private static OneRoom all() {
        OneRoom x = new OneRoom();
        x.put(1, 30);
        for (int i = 0; i < 6; i++) {
            x.bed(i);
        }
        for (int i = 0; i < 5; i++) {
            x.sleeper(60, 1, 8 - 2 * i, 20 + 2 * i, 0);
            x.lie(i, 5 - i);
        }
        for (int i = 0; i < 8; i++) {
            x.sound(0, i, 0, 39, i);
        }
        for (int i = 0; i < 4; i++) {
            x.rule(i, 5 - i, true);
        }
        for (int i = 0; i < 37; i++) {
            x.type(0x2020202020202020L, 8);
        }
        x.type(0x20202020L, 4);
        return x;
    }

    private static void allFull() {
        Supplier<OneRoom> house = EdgeStates::all;
        int[] counts = {0, 6, 5, 8, 4, 300};
        for (int i = 0; i < counts.length; i++) {
            Check.due("full: count(" + i + ")", all().count(i), counts[i]);
        }
        // all is below 60: each sleeps from the slot in which she goes on until she is up
        for (int i = 0; i < 5; i++) {
            int who = i;
            Check.asks("full: slept", house, x -> x.slept(who), 12 + 4 * i);
            Check.asks("full: lie as she lies", house, x -> x.lie(who, 5 - who), 5 - who);
            Check.refused("full: another lies there", house, x -> x.lie(who, who == 0 ? 4 : 6 - who), -3, -20);
            Check.asks("full: bed with four rules", house, x -> x.best(true, who), who < 4 ? 5 - who : 0);
            Check.asks("full: bed without", house, x -> x.best(false, who), who);
            Check.asks("full: whose goes", house, x -> x.order(who), 4 - who);
            Check.asks("full: temper", house, x -> x.temper(who, 2), 2 * Math.max(0, 12 - 4 * who));
            Check.asks("full: wax", house, x -> x.worth(0, who), 0);
        }
        Check.asks("full: worst", house, x -> x.night(0), 12);
        Check.asks("full: good", house, x -> x.night(1), 100);
        Check.asks("full: best", house, x -> x.best(true, -1), 12);
        Check.asks("full: cost", house, x -> x.cost(), 0);
        Check.asks("full: order, 20 for each", house, x -> x.order(-1), 20);
        Check.asks("full: rooms", house, x -> x.rooms(), 0);
        Check.asks("full: quarrel, 12 and 8", house, x -> x.quarrel(20), 1);
        Check.asks("full: quarrel", house, x -> x.quarrel(280), 14);
        Check.asks("full: quarrel", house, x -> x.quarrel(281), -1);
        Check.asks("full: screw", house, x -> x.screw(), -1);
        Check.full("full: bed", house, x -> x.bed(35));
        Check.full("full: sleeper", house, x -> x.sleeper(1, 1, 0, 1, 0));
        Check.full("full: sound", house, x -> x.sound(4, 0, 0, 0, 0));
        Check.full("full: rule", house, x -> x.rule(4, 0, true));
        Check.full("full: type", house, x -> x.type(0, 1));
        Check.due("full: house", all().house(), 0);
        OneRoom x = all();
        Check.due("full: rules gone", x.free(), 4);
        Check.due("full: image", x.image(0), 1);
        Check.due("full: told anew by blanks", x.house(), 0);
        Check.due("full: beds gone", x.count(1), 0);
        Check.due("full: from", x.from(0), 1);
        Check.due("full: beds", x.count(1), 6);
        Check.due("full: sleepers", x.count(2), 5);
        Check.due("full: sounds", x.count(3), 8);
        Check.due("full: rules", x.count(4), 0);
    }

    /** All 300 bytes are read: the last item ends with the last byte. */
    private static void fullHouse() {
        OneRoom x = new OneRoom();
        String s = "bed 35;" + " ".repeat(300 - 14) + "bed 34;";
        Check.due("two items in 300 bytes", Check.told(x, s), 2);
        Check.due("the second bed", x.bed(34), -2);
        Check.due("300", x.count(5), 300);
        Check.due("too early, with 300 bytes", Check.told(x, s.substring(0, 299) + " "), -310);
        Check.due("the last byte can not stand", Check.told(x, s.substring(0, 299) + "x"), -309);
        Check.due("a run of three figures to the end", Check.told(x, s.substring(0, 299) + "0"), -307);
        Check.due("60 items of five bytes", Check.told(x, "fade2;".repeat(50)), 50);
        StringBuilder items = new StringBuilder();
        for (int i = 0; i < 60; i++) {
            items.append("bed").append(i % 6 + 1).append(';');
        }
        Check.due("60 items, the seventh is refused", Check.told(x, items.toString()), -1006);
        Check.due("60 items, the last too long", Check.told(x, items.substring(0, 299) + "1"), -310);
    }

    public static void main(String[] args) {
        newCells();
        newAsked();
        noBed();
        nobody();
        fullOfBeds();
        fullOfSleepers();
        fullOfSounds();
        fullOfRules();
        fullOfText();
        allFull();
        fullHouse();
        Check.end("the empty and the full");
    }
}
