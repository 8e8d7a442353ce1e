/** The dearest calls over a whole run on a full house: they end, answer alike, and leave all as it was. */
public final class DearCalls {
    private static OneRoom full() {
        OneRoom x = new OneRoom();
        for (int i = 0; i < 36; i++) {
            x.board(i, 5 + i % 9);
        }
        for (int i = 0; i < 6; i++) {
            x.bed(6 * i + 5);
        }
        for (int i = 0; i < 5; i++) {
            x.sleeper(12 + 6 * i, 1 + i % 3, 2 * i, 32 + 2 * i, 10 * i);
            x.lie(i, i);
        }
        for (int i = 0; i < 8; i++) {
            x.sound(i % 5, i % 5 == 0 ? 7 * i % 36 : i % 5 == 4 ? 0 : i % 5, i, 39 - i, 10 + 4 * i);
        }
        for (int i = 0; i < 4; i++) {
            x.rule(i, 5 - i, false);
        }
        return x;
    }

    public static void main(String[] args) {
        OneRoom x = full();
        long was = x.digest();
        int wrong = 0;
        int cost = x.cost(), order = x.order(4), best = x.best(true, 2), screw = x.screw(), way = x.way(0, 35, 0);
        for (int i = 0; i < 80; i++) {
            wrong += x.cost() == cost && x.order(4) == order && x.best(true, 2) == best && x.screw() == screw
                    && x.way(0, 35, 0) == way ? 0 : 1;
        }
        if (x.digest() != was || wrong > 0) {
            System.out.println("dear calls: " + wrong + " answers are others, or the digest is");
            System.exit(1);
        }
        System.out.println("dear calls answer alike each time");
    }
}
