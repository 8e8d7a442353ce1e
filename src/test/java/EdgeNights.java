/** Distances, what is heard, and a night slot by slot: each sentence at its edge. */
public final class EdgeNights {
    /** One who sleeps through nearly all, in bed 0 at cell 1, and one who hears all from 1 on, in bed 1 at cell 2. */
    private static final String LISTENER = "fade 0;bed 1;bed 2;sleeper 60 1 0 40 0;sleeper 1 1 0 40 0;lie 0 0;lie 1 1;";

    /** She is awake behind just these slots, and asleep behind all others. */
    private static void awake(String what, OneRoom x, int sleeper, boolean[] slots) {
        int n = 0;
        for (int t = 0; t < 40; t++) {
            Check.due(what + ": awake behind " + t, x.is(sleeper, t) == 1 ? 1 : 0, slots[t] ? 1 : 0);
            n += slots[t] ? 0 : 1;
        }
        Check.due(what + ": slept", x.slept(sleeper), n);
    }

    /** And she wakes in each of these ahead of which she has slept, by that one. */
    private static void woken(String what, OneRoom x, int sleeper, boolean[] slots, int by) {
        awake(what, x, sleeper, slots);
        int n = 0;
        for (int t = 1; t < 40; t++) {
            if (slots[t] && !slots[t - 1]) {
                Check.due(what + ": wakes " + n, x.wakes(sleeper, n), 100 * t + by);
                n++;
            }
        }
        Check.due(what + ": wakes", x.wakes(sleeper, -1), n);
        Check.due(what + ": no more", x.wakes(sleeper, n), -5);
    }

    private static boolean[] slots(int... slots) {
        boolean[] are = new boolean[40];
        for (int t : slots) {
            are[t] = true;
        }
        return are;
    }

    private static boolean[] from(int a, int b) {
        boolean[] are = new boolean[40];
        for (int t = a; t <= b; t++) {
            are[t] = true;
        }
        return are;
    }

    private static void wakes(String what, OneRoom x, int sleeper, long... times) {
        Check.due(what + ": how often", x.wakes(sleeper, -1), times.length);
        for (int i = 0; i < times.length; i++) {
            Check.due(what + ": the time " + i, x.wakes(sleeper, i), times[i]);
        }
        Check.due(what + ": not so often", x.wakes(sleeper, times.length), -5);
    }

    // ---- cells

    private static int apart(int a, int b) {
        return Math.abs(a / 6 - b / 6) + Math.abs(a % 6 - b % 6);
    }

    private static void distances() {
        for (int a = 0; a < 36; a++) {
            for (int b = 0; b < 36; b += 7) {
                OneRoom x = new OneRoom();
                Check.due("distance " + a + " " + b, x.distance(a, b), apart(a, b));
                Check.due("distance " + b + " " + a, x.distance(b, a), apart(a, b));
            }
        }
        // steps go to the four beside alone, and over no border of the six
        OneRoom x = Check.house("wall 1;wall 6;");
        Check.due("not over the corner", x.distance(0, 7), -1);
        x = Check.house("wall 29;wall 34;");
        Check.due("35 is shut in", x.distance(35, 0), -1);
        Check.due("35 there", x.distance(35, 35), 0);
        x = Check.house("wall 4;wall 11;");
        Check.due("5 is shut in, though 6 is next by number", x.distance(5, 6), -1);
        x = Check.house("door 35;wall 0;");
        Check.due("round the wall at 0", x.distance(1, 6), 2);
        Check.due("from 0", x.distance(0, 1), -1);
        Check.due("to 0", x.distance(1, 0), -1);
        Check.due("from 0 to 0", x.distance(0, 0), -1);
        // a way that winds through all rows: 35 is 30 steps off
        x = new OneRoom();
        for (int row = 1; row < 6; row += 2) {
            for (int column = 0; column < 6; column++) {
                if (column != (row % 4 == 1 ? 5 : 0)) {
                    x.wall(6 * row + column, true);
                }
            }
        }
        Check.due("the longest way", x.distance(0, 35), 5 + 2 + 5 + 2 + 5 + 1);
        Check.due("and back", x.distance(35, 0), 20);
        x.wall(11, true);
        Check.due("shut", x.distance(0, 35), -1);
        x.wall(11, false);
        Check.due("open again", x.distance(0, 35), 20);
    }

    private static void heardByFade() {
        for (int fade = 0; fade <= 9; fade++) {
            OneRoom x = new OneRoom();
            x.put(0, fade);
            for (int steps = 0; steps <= 10; steps++) {
                int to = steps < 6 ? steps : 5 + 6 * (steps - 5);
                for (int v : new int[] {0, 1, fade * steps - 1, fade * steps, fade * steps + 1, 59, 60}) {
                    if (v >= 0 && v <= 60) {
                        Check.due("heard of " + v + ", fade " + fade + ", " + steps + " off", x.heard(0, v, to, 7),
                                Math.max(0, v - fade * steps));
                    }
                }
            }
        }
    }

    private static void heardCovered() {
        OneRoom x = new OneRoom();
        x.sound(4, 0, 10, 20, 12);
        x.sound(4, 0, 20, 30, 30);
        x.sound(4, 0, 0, 0, 60);
        x.sound(4, 0, 39, 39, 1);
        x.sound(0, 0, 0, 39, 60);
        for (int t = 0; t < 40; t++) {
            int cover = (t >= 10 && t <= 20 ? 12 : 0) + (t >= 20 && t <= 30 ? 30 : 0) + (t == 0 ? 60 : 0) + (t == 39 ? 1 : 0);
            Check.due("heard in " + t + " without cover", new OneRoom().heard(0, 60, 0, t), 60);
            for (int v : new int[] {60, 43, 42, 41, 31, 30, 12, 1, 0}) {
                Check.due("heard of " + v + " in " + t + " covered", x.heard(7, v, 7, t), Math.max(0, v - cover));
            }
            Check.due("heard two off", x.heard(7, 60, 9, t), Math.max(0, 56 - cover));
        }
        x = new OneRoom();
        for (int i = 0; i < 8; i++) {
            x.sound(4, 0, 3, 5, 60);
        }
        Check.due("heard under 480", x.heard(7, 60, 7, 4), 0);
        Check.due("heard beside it", x.heard(7, 60, 7, 6), 60);
        x = Check.house("wall 1;wall 6;");
        Check.due("from a wall", x.heard(1, 60, 2, 0), 0);
        Check.due("to a wall", x.heard(2, 60, 1, 0), 0);
        Check.due("within a wall", x.heard(1, 60, 1, 0), 0);
        Check.due("not reached", x.heard(0, 60, 7, 0), 0);
        Check.due("not reached at fade 0", x.put(0, 0) + x.heard(0, 60, 7, 0), 2);
        Check.due("there", x.heard(0, 60, 0, 0), 60);
    }

    // ---- who comes, goes, falls asleep

    private static void comesAndGoes() {
        for (int goes = 0; goes < 40; goes++) {
            for (int up : new int[] {goes + 1, goes + 2, 39, 40}) {
                if (up <= goes || up > 40) {
                    continue;
                }
                for (int again : new int[] {1, 2, 9}) {
                    OneRoom x = new OneRoom();
                    x.bed(1);
                    x.sleeper(1, again, goes, up, 60);
                    x.lie(0, 0);
                    String what = "goes " + goes + ", up " + up + ", again " + again;
                    int slept = Math.max(0, up - goes - again + 1);
                    Check.due(what + ": slept", x.slept(0), slept);
                    Check.due(what + ": worst", x.night(0), slept);
                    for (int t : new int[] {0, goes - 1, goes, goes + again - 2, goes + again - 1, up - 1, up, 39}) {
                        if (t >= 0 && t < 40) {
                            int deep = new int[] {0, 1, 2, 3, 2, 1}[Math.floorMod(t - goes - again + 1, 6)];
                            Check.due(what + ": is " + t, x.is(0, t), t < goes || t >= up ? 0 : t < goes + again - 1 ? 1 : 2 + deep);
                        }
                    }
                }
            }
        }
        OneRoom x = Check.house("bed 1;sleeper 1 1 0 40 0;lie 0 0;");
        for (int t = 0; t < 40; t++) {
            Check.due("deep in " + t, x.is(0, t), 2 + new int[] {0, 1, 2, 3, 2, 1}[t % 6]);
        }
        x.lie(0, -1);
        for (int t = 0; t < 40; t++) {
            Check.due("out in " + t, x.is(0, t), 0);
        }
        x = Check.house("bed 1;sleeper 60 1 6 12 0;lie 0 0;noise 1 0 39 60;");
        Check.due("not reached: in all the same", x.put(1, 35) + x.wall(29, true) + x.wall(34, true) + x.is(0, 6), 3);
        Check.due("not reached: out all the same", x.is(0, 12), 0);
    }

    /** AGAIN slots of quiet that run; what is heard less than HEARS is quiet, and DEEP is not asked of one awake. */
    private static void quietRuns() {
        for (int again = 1; again <= 9; again++) {
            for (int t = 3; t < 3 + again; t++) {
                String bed = "bed 1;sleeper 20 " + again + " 3 40 0;lie 0 0;noise 1 " + t + " " + t + " ";
                OneRoom x = Check.house(bed + "20;");
                Check.due("again " + again + ", heard in " + t + ": awake", x.is(0, t + again - 1), 1);
                Check.due("again " + again + ", heard in " + t + ": asleep", x.is(0, t + again), 2);
                Check.due("again " + again + ", heard in " + t + ": slept", x.slept(0), 40 - t - again);
                Check.due("she did not wake by it", x.wakes(0, -1), 0);
                x = Check.house(bed + "19;");
                Check.due("again " + again + ", less in " + t + ": awake", x.is(0, 3 + again - 1), 2);
                Check.due("again " + again + ", less in " + t + ": slept", x.slept(0), 40 - 3 - again + 1);
            }
            // woken in 10, she has to have all of AGAIN anew
            OneRoom x = Check.house("bed 1;sleeper 20 " + again + " 0 40 0;lie 0 0;noise 1 11 11 60;");
            wakes("again " + again, x, 0, 1110);
            Check.due("awake", x.is(0, 10 + again), 1);
            Check.due("asleep again", x.is(0, 11 + again), 2);
            Check.due("one deep then", x.is(0, 12 + again), 3);
        }
        OneRoom x = Check.house("bed 1;sleeper 1 1 0 40 0;lie 0 0;noise 1 0 39 1;");
        awake("1 is heard from 1 on", x, 0, from(0, 39));
        x = Check.house("bed 1;sleeper 2 1 0 40 0;lie 0 0;noise 1 0 39 1;");
        awake("1 is less than 2", x, 0, slots());
        x = Check.house("bed 1;sleeper 60 1 0 40 0;lie 0 0;noise 1 0 39 60;");
        awake("60 is heard from 60 on", x, 0, from(0, 39));
        x = Check.house("bed 1;sleeper 60 1 0 40 0;lie 0 0;noise 1 0 39 59;");
        awake("59 is less than 60", x, 0, slots());
    }

    /** No less than HEARS and 4 times DEEP wakes her. */
    private static void deep() {
        for (int hears = 1; hears <= 60; hears++) {
            for (int t = 1; t < 40; t += hears % 5 == 0 ? 1 : 5) {
                int needs = hears + 4 * new int[] {0, 1, 2, 3, 2, 1}[t % 6];
                OneRoom x = Check.house("bed 1;sleeper " + hears + " 1 0 40 0;lie 0 0;");
                x.sound(0, 1, t, t, Math.min(60, needs - 1));
                Check.due("hears " + hears + ": less in " + t, x.wakes(0, -1), 0);
                Check.due("hears " + hears + ": slept", x.slept(0), 40);
                if (needs <= 60) {
                    x.still();
                    x.sound(0, 1, t, t, needs);
                    wakes("hears " + hears + " in " + t, x, 0, 100 * t + 10);
                    Check.due("hears " + hears + ": awake", x.is(0, t), 1);
                    Check.due("hears " + hears + ": slept", x.slept(0), 39);
                }
            }
        }
    }

    // ---- sounds

    private static void spans() {
        for (int a = 0; a < 40; a++) {
            for (int b = a; b < 40; b += b < a + 9 || b == 38 ? 1 : 3) {
                boolean[] noise = from(a, b), cried = new boolean[40], turned = new boolean[40], open = new boolean[40];
                for (int t = 0; t < 40; t++) {
                    cried[t] = noise[t] && (t - a) % 4 == 0;
                    turned[t] = noise[t] && t >= 5 && t < 14;
                    open[t] = !noise[t];
                }
                String span = " 0 " + a + " " + b + " 60;", of = " in " + a + " to " + b;
                woken("noise" + of, Check.house(LISTENER + "noise" + span), 1, noise, 10);
                woken("cried" + of, Check.house(LISTENER + "cried" + span), 1, cried, 0);
                woken("rung" + of, Check.house(LISTENER + "rung" + span), 1, slots(a), 0);
                String turner = "fade 0;bed 1;bed 2;sleeper 60 9 5 40 0;sleeper 1 1 0 40 0;lie 0 0;lie 1 1;";
                woken("turned" + of, Check.house(turner + "turned" + span), 1, turned, 0);
                awake("out" + of, Check.house(LISTENER + "noise 0 0 39 60;out" + span), 1, open);
                awake("out of 59" + of, Check.house(LISTENER + "noise 0 0 39 60;out 0 " + a + " " + b + " 59;"), 1, from(0, 39));
            }
        }
        awake("two outs, both of them", Check.house(LISTENER + "noise 0 0 39 60;out 0 3 20 30;out 0 15 30 30;"), 1,
                either(from(0, 14), from(21, 39)));
        awake("out of v 0", Check.house(LISTENER + "noise 0 0 39 1;out 0 3 20 0;"), 1, from(0, 39));
        awake("noise of v 0", Check.house(LISTENER + "noise 0 0 39 0;"), 1, slots());
        awake("noise in a wall", Check.house("wall 9;" + LISTENER + "noise 9 0 39 60;"), 1, slots());
        awake("noise not reached", Check.house("wall 29;wall 34;" + LISTENER + "noise 35 0 39 60;"), 1, slots());
    }

    private static boolean[] either(boolean[] a, boolean[] b) {
        boolean[] are = a.clone();
        for (int t = 0; t < 40; t++) {
            are[t] |= b[t];
        }
        return are;
    }

    /** While x is awake in bed, as she is ahead of 3. */
    private static void turned() {
        String beds = "fade 0;bed 1;bed 2;", lie = "sleeper 1 1 0 40 0;lie 0 0;lie 1 1;turned 0 0 39 60;";
        woken("turned from the slot she comes in", Check.house(beds + "sleeper 60 1 7 40 0;" + lie), 1, slots(7), 0);
        woken("until she is asleep", Check.house(beds + "sleeper 60 3 7 40 0;" + lie), 1, from(7, 9), 0);
        woken("not in the slot she goes out in", Check.house(beds + "sleeper 60 9 7 10 0;" + lie), 1, from(7, 9), 0);
        woken("turned when awake again, not yet in the slot she wakes in",
                Check.house("fade 9;bed 1;bed 2;sleeper 30 2 0 40 0;sleeper 24 1 0 40 0;lie 0 0;lie 1 1;turned 0 6 39 60;"
                        + "noise 1 12 12 31;noise 1 7 7 34;"), 1, slots(8, 9), 0);
        woken("she who is in no bed", Check.house(beds + "sleeper 60 9 0 40 0;sleeper 1 1 0 40 0;lie 1 1;turned 0 0 39 60;"), 1,
                slots(), 0);
    }

    private static void atBeds() {
        // the bed of x is told by where she lies now, and by the cell of that bed
        String pair = "fade 9;bed 5;bed 2;bed 1;sleeper 60 1 39 40 0;sleeper 10 1 0 40 0;lie 1 1;";
        String[] kinds = {"cried 0 6 6 19;", "rung 0 6 6 19;"};
        for (String kind : kinds) {
            OneRoom x = Check.house(pair + kind);
            wakes(kind + " in no bed", x, 1);
            x.lie(0, 0);
            wakes(kind + " three off: 19 less 27", x, 1);
            x.lie(0, 2);
            wakes(kind + " one off: 10", x, 1, 600);
            x.put(0, 8);
            wakes(kind + " 11", x, 1, 600);
            x.lie(0, -1);
            wakes(kind + " in no bed again", x, 1);
            x.lie(0, 2);
            x.wall(2 + 6, true);
            x.sound(4, 0, 6, 6, 1);
            wakes(kind + " 10 under 1", x, 1, 600);
            x.sound(4, 0, 6, 6, 1);
            wakes(kind + " 9 under 2", x, 1);
        }
        // she need not be in: she cries ahead of GOES and behind UP
        String out = "fade 0;bed 1;bed 2;sleeper 60 1 20 21 0;sleeper 1 1 0 40 0;lie 0 0;lie 1 1;";
        woken("cried though out", Check.house(out + "cried 0 18 39 60;"), 1, slots(18, 22, 26, 30, 34, 38), 0);
        woken("rung though out", Check.house(out + "rung 0 30 39 60;"), 1, slots(30), 0);
        // a bed that is shut in: nothing is heard there or from there
        String shut = "fade 0;door 35;bed 0;bed 2;sleeper 1 1 0 40 60;sleeper 1 1 0 40 60;lie 0 0;lie 1 1;wall 1;wall 6;"
                + "cried 0 0 39 60;cried 1 0 39 60;";
        OneRoom x = Check.house(shut);
        Check.due("shut in: slept", x.slept(0), 40);
        Check.due("beside it: slept", x.slept(1), 40);
        Check.due("open: another night", x.wall(1, false) + (x.slept(0) < 40 ? 1 : 0) + (x.slept(1) < 40 ? 1 : 0), 3);
    }

    /** By sound 10 and its number, by the sleeper where it is one's own kind. */
    private static void byWhom() {
        for (int i = 0; i < 8; i++) {
            OneRoom x = Check.house(LISTENER);
            for (int k = 0; k < 8; k++) {
                x.sound(0, 2, 7, 7, k == i ? 40 : 39);
            }
            wakes("by sound " + i, x, 1, 710 + i);
            x = Check.house(LISTENER);
            for (int k = 0; k < 8; k++) {
                x.sound(k == i ? 0 : 4, 0, 7, 7, k == i ? 60 : 1);
            }
            wakes("by sound " + i + " among outs", x, 1, 710 + i);
        }
        for (int s = 0; s < 4; s++) {
            OneRoom x = new OneRoom();
            x.put(0, 0);
            for (int i = 0; i < 5; i++) {
                x.bed(i);
                x.sleeper(i == 4 ? 1 : 60, 1, 0, 40, 0);
                x.lie(i, i);
            }
            x.sound(4, 0, 0, 39, 0);
            x.sound(1, s, 7, 10, 60);
            x.sound(3, s, 15, 15, 60);
            wakes("by sleeper " + s, x, 4, 700 + s, 1500 + s);
            Check.due("woke", x.woke(s, 4), 2);
            Check.due("woke not by another", x.woke((s + 1) % 4, 4), 0);
        }
        // 20 times is the most: asleep in one slot, woken in the next
        OneRoom x = Check.house(LISTENER + "cried 0 1 39 60;cried 0 3 39 60;");
        Check.due("twenty times", x.wakes(1, -1), 20);
        for (int i = 0; i < 20; i++) {
            Check.due("the time " + i, x.wakes(1, i), 100 * (2 * i + 1));
        }
        Check.due("not so often", x.wakes(1, 20), -5);
        Check.due("woke", x.woke(0, 1), 20);
        Check.due("slept", x.slept(1), 20);
    }

    /** What is her own she does not hear; a noise at her bed is none of hers. */
    private static void herOwn() {
        String one = "fade 0;bed 1;sleeper 1 1 0 40 60;lie 0 0;board 1 40;";
        awake("her own", Check.house(one + "cried 0 0 39 60;rung 0 7 7 60;turned 0 0 39 60;"), 0, slots());
        woken("a noise at her bed", Check.house(one + "noise 1 7 9 60;"), 0, from(7, 9), 10);
        woken("the other's, beside her own that are louder",
                Check.house(LISTENER + "rung 1 7 7 60;rung 0 7 7 20;noise 0 7 7 19;"), 1, slots(7), 0);
        woken("a sound, beside her own that is louder", Check.house(LISTENER + "rung 1 7 7 60;noise 0 7 7 20;"), 1, slots(7), 11);
        OneRoom x = Check.house("fade 0;bed 1;bed 2;sleeper 1 1 0 20 0;sleeper 1 1 5 20 0;lie 0 0;lie 1 1;board 1 40;");
        wakes("the other's steps", x, 0, 501);
        wakes("not her own", x, 1);
    }

    // ---- snores

    private static void snores() {
        String beds = "fade 0;bed 1;bed 2;", lie = "sleeper 1 1 0 40 0;lie 0 0;lie 1 1;";
        boolean[] in = new boolean[40];
        for (int fell = 0; fell <= 6; fell++) {
            for (int up : new int[] {40, 20, 18, 17}) {
                for (int t = 0; t < 40; t++) {
                    int deep = t < fell || t >= up ? 0 : new int[] {0, 1, 2, 3, 2, 1}[(t - fell) % 6];
                    in[t] = deep >= 2;
                }
                woken("snores, asleep from " + fell + " to " + up,
                        Check.house(beds + "sleeper 60 1 " + fell + " " + up + " 59;" + lie), 1, in, 0);
            }
        }
        awake("snores 0", Check.house(beds + "sleeper 60 1 0 40 0;" + lie), 1, slots());
        awake("snores in no bed", Check.house(beds + "sleeper 60 1 0 40 60;sleeper 1 1 0 40 0;lie 1 1;"), 1, slots());
        // woken in 2 herself, she is heard in 2, and in 3 no more
        OneRoom x = Check.house("fade 9;bed 0;bed 1;sleeper 10 1 0 40 60;sleeper 30 1 0 40 0;lie 0 0;lie 1 1;noise 0 2 2 18;");
        Check.due("she wakes in 2", x.wakes(0, 0), 210);
        Check.due("her snoring in 2 is heard", x.wakes(1, 0), 200);
        Check.due("asleep in 3", x.is(1, 3), 2);
        Check.due("and she", x.is(0, 3), 2);
        // the same with the numbers the other way about
        x = Check.house("fade 9;bed 0;bed 1;sleeper 30 1 0 40 0;sleeper 10 1 0 40 60;lie 0 1;lie 1 0;noise 0 2 2 18;");
        Check.due("she wakes in 2", x.wakes(1, 0), 210);
        Check.due("her snoring in 2 is heard", x.wakes(0, 0), 201);
        Check.due("asleep in 3", x.is(0, 3), 2);
        // in her bed: 60 less 3 times 9 is 33, and 2 deep 25 and 8 are needed
        x = Check.house("fade 9;bed 0;bed 3;sleeper 60 1 0 40 60;sleeper 25 1 0 40 0;lie 0 0;lie 1 1;");
        Check.due("just enough", x.wakes(1, 0), 200);
        x = Check.house("fade 9;bed 0;bed 3;sleeper 60 1 0 40 60;sleeper 26 1 0 40 0;lie 0 0;lie 1 1;");
        Check.due("not enough", x.wakes(1, 0), -5);
    }

    // ---- steps

    private static void steps() {
        String pair = "bed 1;bed 5;sleeper 10 1 0 40 0;sleeper 60 1 6 12 0;lie 0 0;lie 1 1;";
        // in slot 6 she needs 10, in slot 12 too if she was not woken in 6
        wakes("10 at her bed", Check.house(pair + "board 1 10;"), 0, 601);
        wakes("9 at her bed", Check.house(pair + "board 1 9;"), 0);
        wakes("10 one off", Check.house(pair + "board 2 12;"), 0, 601);
        wakes("9 one off", Check.house(pair + "board 2 11;"), 0);
        wakes("10 four off", Check.house(pair + "board 5 18;"), 0, 601);
        wakes("9 four off", Check.house(pair + "board 5 17;"), 0);
        wakes("10 at the door", Check.house(pair + "board 0 12;"), 0, 1201);
        wakes("9 at the door", Check.house(pair + "board 0 11;"), 0);
        wakes("covered", Check.house(pair + "board 1 10;out 0 6 6 1;"), 0, 1201);
        wakes("covered both times", Check.house(pair + "board 1 10;out 0 6 12 1;"), 0);
        wakes("the greatest of all cells", Check.house(pair + "board 1 9;board 2 11;board 3 14;board 4 15;"), 0, 601);
        wakes("they are not put together", Check.house(pair + "board 1 9;board 2 11;board 3 13;board 4 15;board 5 17;"), 0);
        // the way of like ones the first: right ahead of down
        String far = "bed 35;bed 34;sleeper 1 1 0 40 0;sleeper 60 1 6 12 0;lie 0 1;lie 1 0;fade 0;";
        for (int c = 0; c < 36; c++) {
            boolean in = c >= 1 && c <= 5 || c > 5 && c % 6 == 5;
            boolean out = c % 6 == 5 && c < 35 || c < 5;
            OneRoom x = Check.house(far + "board " + c + " 40;");
            wakes("board " + c, x, 0, in && out ? new long[] {601, 1201} : in ? new long[] {601} : out ? new long[] {1201} : new long[0]);
        }
        // from 35 to 0 up goes ahead of left: 29, 23, 17, 11, 5, then 4 .. 0
        OneRoom x = Check.house("bed 0;bed 7;door 35;sleeper 60 1 6 12 0;sleeper 1 1 0 40 0;lie 0 0;lie 1 1;fade 0;board 5 40;");
        wakes("up ahead of left, right ahead of down", x, 1, 600, 1200);
        x = Check.house("bed 30;bed 7;door 5;sleeper 60 1 6 12 0;sleeper 1 1 0 40 0;lie 0 0;lie 1 1;fade 0;board 35 40;");
        wakes("down ahead of left", x, 1, 600);
        x = Check.house("bed 30;bed 7;door 5;sleeper 60 1 6 12 0;sleeper 1 1 0 40 0;lie 0 0;lie 1 1;fade 0;board 0 40;");
        wakes("up ahead of right", x, 1, 1200);
        // one who comes in in the last slot, one who is up at the end
        x = Check.house("bed 1;bed 2;sleeper 60 1 39 40 0;sleeper 1 1 0 40 0;lie 0 0;lie 1 1;board 1 40;");
        wakes("in the last slot", x, 1, 3900);
        x = Check.house("bed 1;bed 2;sleeper 60 1 0 39 0;sleeper 1 1 0 40 0;lie 0 0;lie 1 1;board 0 40;");
        wakes("out in the last slot", x, 1, 3900);
        x = Check.house("bed 1;bed 2;sleeper 60 1 0 40 0;sleeper 1 1 0 40 0;lie 0 0;lie 1 1;board 0 40;board 1 40;");
        wakes("up at 40: not in this night", x, 1);
        awake("but in in slot 0", x, 1, slots(0));
    }

    // ---- of like ones the first

    private static void ties() {
        String three = "fade 0;bed 1;bed 2;bed 3;";
        String come = three + "sleeper 60 1 6 40 0;sleeper 60 1 6 40 0;sleeper 1 1 0 40 0;lie 0 0;lie 1 1;lie 2 2;";
        wakes("two come: the first", Check.house(come + "board 1 20;"), 2, 600);
        wakes("two come: the one who is heard", Check.house(come + "board 2 20;"), 2, 601);
        wakes("two come: the louder one", Check.house(come + "board 1 20;board 2 21;"), 2, 601);
        String both = three + "sleeper 60 1 0 6 0;sleeper 60 1 6 40 0;sleeper 1 1 1 40 0;lie 0 0;lie 1 1;lie 2 2;";
        wakes("one goes, one comes: the first", Check.house(both + "board 0 20;board 1 20;"), 2, 600);
        wakes("one goes, one comes: the louder one", Check.house(both + "board 0 20;board 1 21;"), 2, 601);
        String turned = three + "sleeper 60 1 6 40 0;sleeper 60 1 0 6 0;sleeper 1 1 1 40 0;lie 0 0;lie 1 1;lie 2 2;";
        wakes("one comes, one goes: the first", Check.house(turned + "board 1 20;"), 2, 600);
        wakes("one comes, one goes: the louder one", Check.house(turned + "board 1 20;board 0 21;"), 2, 601);
        String go = three + "sleeper 60 1 0 6 0;sleeper 60 1 0 6 0;sleeper 1 1 1 40 0;lie 0 0;lie 1 1;lie 2 2;";
        wakes("two go: the first", Check.house(go + "board 0 20;"), 2, 600);
        wakes("two go: the louder one", Check.house(go + "board 0 20;board 1 21;"), 2, 601);
        wakes("a step and a sound alike: the step", Check.house(come + "board 2 20;noise 0 6 6 20;rung 0 6 6 20;"), 2, 601);
        wakes("a step and a louder sound", Check.house(come + "board 2 20;noise 0 6 6 21;"), 2, 610);
        wakes("a step and a louder ringing", Check.house(come + "board 2 20;rung 0 6 6 21;"), 2, 600);
    }

    private static void tiesOfSounds() {
        String three = "fade 0;bed 1;bed 2;bed 3;sleeper 60 1 0 40 0;sleeper 60 1 0 40 0;sleeper 20 1 0 40 0;lie 0 0;lie 1 1;lie 2 2;";
        wakes("two noises: the first", Check.house(three + "noise 0 6 6 20;noise 1 6 6 20;"), 2, 610);
        wakes("two noises: the louder one", Check.house(three + "noise 0 6 6 20;noise 1 6 6 21;"), 2, 611);
        wakes("two who cry: the first sound", Check.house(three + "cried 1 6 6 20;cried 0 6 6 20;"), 2, 601);
        wakes("a noise ahead of one who cries", Check.house(three + "noise 1 6 6 20;cried 0 6 6 20;"), 2, 610);
        wakes("one who cries ahead of a noise", Check.house(three + "cried 1 6 6 20;noise 1 6 6 20;"), 2, 601);
        wakes("rung ahead of cried, by numbers", Check.house(three + "rung 1 6 6 20;cried 0 6 6 20;"), 2, 601);
        String snore = "fade 0;bed 1;bed 2;bed 3;sleeper 60 1 0 40 28;sleeper 60 1 0 40 28;sleeper 20 1 0 40 0;"
                + "lie 0 0;lie 1 1;lie 2 2;";
        Check.due("two snores: the first", Check.house(snore).wakes(2, 0), 200);
        Check.due("a noise as loud goes ahead", Check.house(snore + "noise 0 2 2 28;").wakes(2, 0), 210);
        Check.due("a noise less loud does not", Check.house(snore + "noise 0 2 2 27;").wakes(2, 0), 200);
        Check.due("one who rings as loud goes ahead", Check.house(snore + "rung 1 2 2 28;").wakes(2, 0), 201);
        Check.due("a louder snore", Check.house(snore.replaceFirst("40 28;sleeper 60 1 0 40 28", "40 28;sleeper 60 1 0 40 29"))
                .wakes(2, 0), 201);
        // step, sound and snore alike in slot 2
        String all = "fade 0;bed 1;bed 2;bed 3;sleeper 60 1 0 40 28;sleeper 60 1 2 40 0;sleeper 20 1 0 40 0;lie 0 0;lie 1 1;lie 2 2;";
        Check.due("a step ahead of a snore", Check.house(all + "board 1 28;").wakes(2, 0), 201);
        Check.due("a step ahead of all", Check.house(all + "board 1 28;noise 0 2 2 28;").wakes(2, 0), 201);
        Check.due("a snore louder than a step", Check.house(all + "board 1 27;").wakes(2, 0), 200);
    }

    // ---- what the calls tell of it

    /** All at the last that is just heard, where one less would be none. */
    private static void justHeard() {
        OneRoom x = Check.house("bed 1;bed 2;sleeper 10 1 0 40 0;sleeper 60 1 0 40 0;lie 0 0;lie 1 1;noise 1 0 39 10;");
        Check.due("slept", x.slept(0), 0);
        Check.due("is", x.is(0, 39), 1);
        Check.due("worst", x.night(0), 0);
        Check.due("good", x.night(1), 40);
        Check.due("temper", x.temper(0, 2), 48);
        Check.due("temper of the other", x.temper(1, 2), 0);
        Check.due("quarrel", x.quarrel(24), 1);
        Check.due("best", x.best(false, -1), 40);
        x = Check.house("bed 1;bed 2;sleeper 10 1 0 40 0;sleeper 60 1 0 40 0;lie 0 0;lie 1 1;cried 1 6 6 12;");
        wakes("12 one off", x, 0, 601);
        Check.due("woke", x.woke(1, 0), 1);
        Check.due("rooms", x.rooms(), 2);
        x.put(0, 3);
        wakes("9", x, 0);
        Check.due("woke no more", x.woke(1, 0), 0);
        Check.due("rooms", x.rooms(), 0);
    }

    /** A call asks of the house as it is now, and nothing of an earlier night is left. */
    private static void asItIsNow() {
        OneRoom x = Check.house("bed 1;sleeper 1 1 0 40 0;lie 0 0;noise 1 3 9 60;");
        woken("in 3 to 9", x, 0, from(3, 9), 10);
        x.still();
        awake("none", x, 0, slots());
        x.sound(0, 1, 20, 22, 60);
        woken("in 20 to 22", x, 0, from(20, 22), 10);
        x.sound(4, 0, 21, 22, 60);
        woken("covered in 21, 22", x, 0, slots(20), 10);
        x.still();
        woken("not covered", x, 0, from(20, 22), 10);
        x.wall(2, true);
        x.wall(7, true);
        x.sleeper(1, 1, 30, 40, 0);
        x.board(1, 40);
        woken("another who lies in no bed is not heard", x, 0, from(20, 22), 10);
        x.bed(3);
        x.lie(1, 1);
        woken("not reached: no steps", x, 0, from(20, 22), 10);
        x.wall(2, false);
        wakes("reached: steps", x, 0, 2010, 3001);
        x.lie(1, -1);
        wakes("in no bed again", x, 0, 2010);
        x.image(0);
        x.house();
        x.from(0);
        wakes("from an image", x, 0, 2010);
    }

    private static void worstAndGood() {
        OneRoom x = new OneRoom();
        for (int i = 0; i < 5; i++) {
            x.bed(i);
            x.sleeper(60, 1, 10 + i, 40, 0);
            Check.due("one in no bed: worst", x.night(0), 0);
            Check.due("good of the others", x.night(1), i * 30 - i * (i - 1) / 2);
            x.lie(i, i);
            Check.due("worst", x.night(0), 30 - i);
            Check.due("good", x.night(1), (i + 1) * 30 - i * (i + 1) / 2);
        }
        x.lie(2, -1);
        Check.due("worst", x.night(0), 0);
        Check.due("good", x.night(1), 112);
        x = Check.house("bed 1;sleeper 60 9 0 8 0;lie 0 0;");
        Check.due("one who never sleeps: worst", x.night(0), 0);
        Check.due("good", x.night(1), 0);
        x = Check.house("bed 1;sleeper 60 1 0 40 0;lie 0 0;");
        Check.due("one who sleeps all the night: worst", x.night(0), 40);
        Check.due("good", x.night(1), 40);
    }

    public static void main(String[] args) {
        distances();
        heardByFade();
        heardCovered();
        comesAndGoes();
        quietRuns();
        deep();
        spans();
        turned();
        atBeds();
        byWhom();
        herOwn();
        snores();
        steps();
        ties();
        tiesOfSounds();
        justHeard();
        asItIsNow();
        worstAndGood();
        Check.end("nights");
    }
}
