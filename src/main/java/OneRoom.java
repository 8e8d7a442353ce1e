import java.util.Arrays;

/** Five in one room: a house, its nights slot by slot, and what would be best in it. */
public final class OneRoom {
    public static final int NONE = -1, BAD = -2, NO = -3, FULL = -4;

    private static final int SIDE = 6;
    private static final int CELLS = 36;
    private static final int STEPS = 4;
    private static final int BEDS = 6;
    private static final int SLEEPERS = 5;
    private static final int SOUNDS = 8;
    private static final int RULES = 4;
    private static final int SLOTS = 40;
    private static final int IMAGES = 2;
    private static final int BYTES = 300;
    private static final int NIGHTS = 14;

    private static final int LOUDEST_CREAK = 40;
    private static final int LOUDEST = 60;
    private static final int ENOUGH_SLEEP = 24;
    private static final int DRY_OF = 10;

    private static final int NOISE = 0;
    private static final int CRIED = 1;
    private static final int TURNED = 2;
    private static final int RUNG = 3;
    private static final int COVERING = 4;

    private static final int WAX = 0;
    private static final int FAN = 1;
    private static final int BOARD = 2;
    private static final int BALL = 3;

    private static final int OUT = 0;
    private static final int AWAKE = 1;
    private static final int ASLEEP = 2;

    private final House home = new House();
    private final House spare = new House();
    private final House[] images = new House[IMAGES];
    private final boolean[] kept = new boolean[IMAGES];
    private final Text text = new Text();
    private final Night tonight = new Night();
    private final Search search = new Search();
    private final Hush hush = new Hush();
    private final Reach reach = new Reach();
    private final int[] far = new int[CELLS];
    private final int[] refusals = new int[3];
    private int above = 0;
    private int below = 1;

    public OneRoom() {
        for (int i = 0; i < IMAGES; i++) {
            images[i] = new House();
        }
    }

    // ---- a house

    public int wall(int cell, boolean is) {
        return counted(home.floor.setWall(cell, is));
    }

    public int board(int cell, int creak) {
        return counted(home.floor.setCreak(cell, creak));
    }

    public int put(int what, int v) {
        if (what == 0) {
            return counted(home.floor.setFade(v));
        }
        return counted(what == 1 ? home.floor.setDoor(v) : BAD);
    }

    public int bed(int cell) {
        return counted(home.floor.addBed(cell));
    }

    public int sleeper(int hears, int again, int goes, int up, int snores) {
        return counted(home.people.add(hears, again, goes, up, snores));
    }

    public int lie(int sleeper, int bed) {
        int was = home.lay(sleeper, bed);
        if (was == BAD) {
            return refused(BAD, -10);
        }
        return was == NO ? refused(NO, -20) : was;
    }

    public int sound(int kind, int x, int a, int b, int v) {
        return counted(home.addSound(kind, x, a, b, v));
    }

    public int still() {
        return counted(home.sounds.dropLast());
    }

    public int type(long v, int n) {
        return counted(text.append(v, n));
    }

    public int clear() {
        return text.empty();
    }

    public int house() {
        int fault = text.read();
        if (fault != NONE) {
            return -10 - fault;
        }
        spare.restart();
        for (int i = 0; i < text.items; i++) {
            if (spare.take(text.words[i], text.numbers[i]) <= BAD) {
                return -1000 - i;
            }
        }
        home.copy(spare);
        return text.items;
    }

    // ---- nights

    public int distance(int a, int b) {
        if (!isCell(a) || !isCell(b)) {
            return counted(BAD);
        }
        reach.spread(home.floor.walls, a, far);
        return far[b];
    }

    public int heard(int from, int v, int to, int slot) {
        if (!isCell(from) || !isIn(v, 0, LOUDEST) || !isCell(to) || !isIn(slot, 0, SLOTS - 1)) {
            return counted(BAD);
        }
        reach.spread(home.floor.walls, to, far);
        return Math.max(0, faded(v, far[from], home.floor.fade) - home.sounds.coverIn(slot));
    }

    public int slept(int sleeper) {
        if (!home.people.has(sleeper)) {
            return counted(BAD);
        }
        pass(home, 0);
        return tonight.sleeps[sleeper];
    }

    public int is(int sleeper, int slot) {
        if (!home.people.has(sleeper) || !isIn(slot, 0, SLOTS - 1)) {
            return counted(BAD);
        }
        pass(home, 0);
        return tonight.seen[sleeper][slot];
    }

    public int wakes(int sleeper, int i) {
        if (!home.people.has(sleeper) || i < NONE) {
            return refused(BAD, -10);
        }
        pass(home, 0);
        if (i == NONE) {
            return tonight.wakings[sleeper];
        }
        return i < tonight.wakings[sleeper] ? tonight.woken[sleeper][i] : -5;
    }

    public int woke(int a, int b) {
        if (!home.people.has(a) || !home.people.has(b) || a == b) {
            return counted(BAD);
        }
        pass(home, 0);
        return tonight.wakingsBy(a, b);
    }

    public int night(int what) {
        if (what != 0 && what != 1) {
            return counted(BAD);
        }
        pass(home, 0);
        return what == 0 ? tonight.worst() : tonight.good();
    }

    // ---- what is best

    public int way(int a, int b, int what) {
        if (!isOpen(a) || !isOpen(b) || !isIn(what, 0, 2)) {
            return counted(BAD);
        }
        if (!hush.find(home, a, b)) {
            return counted(NO);
        }
        if (what == 0) {
            return hush.greatest;
        }
        return what == 1 ? hush.steps : hush.second;
    }

    public int rule(int sleeper, int bed, boolean has) {
        if (!home.people.has(sleeper) || !home.floor.hasBed(bed)) {
            return counted(BAD);
        }
        return counted(home.rules.add(sleeper, bed, has));
    }

    public int free() {
        int were = home.rules.count;
        home.rules.count = 0;
        return were;
    }

    public int best(boolean rules, int sleeper) {
        if (sleeper != NONE && !home.people.has(sleeper)) {
            return refused(BAD, -10);
        }
        if (!search.findBeds(home, rules)) {
            return refused(NO, -20);
        }
        return sleeper == NONE ? search.worst : search.best[sleeper];
    }

    public int cost() {
        if (!search.findBeds(home, false)) {
            return counted(NO);
        }
        int without = search.worst;
        if (!search.findBeds(home, true)) {
            return counted(NO);
        }
        return without - search.worst;
    }

    public int order(int sleeper) {
        if (sleeper != NONE && !home.people.has(sleeper)) {
            return counted(BAD);
        }
        if (home.people.count == 0) {
            return counted(NO);
        }
        search.findGoes(home);
        return sleeper == NONE ? search.worst : search.best[sleeper];
    }

    public int worth(int thing, int x) {
        if (!isThing(thing, x)) {
            return refused(BAD, -100);
        }
        pass(home, 0);
        int was = tonight.worst();
        passWith(thing, x);
        return tonight.worst() - was;
    }

    public int screw() {
        int cell = NONE;
        int worst = 0;
        int good = 0;
        for (int c = 0; c < CELLS; c++) {
            if (home.floor.creaks[c] > 0) {
                passWith(BOARD, c);
                // WORST as it is, is the same for all: the greatest WORST is the greatest WORTH
                if (cell == NONE || tonight.isBetter(worst, good)) {
                    cell = c;
                    worst = tonight.worst();
                    good = tonight.good();
                }
            }
        }
        return cell;
    }

    public int rooms() {
        if (home.people.count == 0) {
            return counted(NO);
        }
        pass(home, 0);
        int best = 0;
        int fewest = tonight.wakingsTogether(0);
        for (int bits = 2; bits < 1 << home.people.count; bits += 2) {
            int wakings = tonight.wakingsTogether(bits);
            if (wakings < fewest) {
                best = bits;
                fewest = wakings;
            }
        }
        return best;
    }

    public int temper(int sleeper, int n) {
        if (!home.people.has(sleeper) || !isIn(n, 0, NIGHTS)) {
            return counted(BAD);
        }
        pass(home, 0);
        return n * tonight.lack(sleeper);
    }

    public int quarrel(int limit) {
        if (!isIn(limit, 1, 999)) {
            return counted(BAD);
        }
        pass(home, 0);
        int lack = tonight.greatestLackOfTwo();
        for (int n = 1; n <= NIGHTS; n++) {
            if (n * lack >= limit) {
                return n;
            }
        }
        return NONE;
    }

    public int tent(int sleeper, int a) {
        if (!home.people.has(sleeper) || !isIn(a, 0, DRY_OF)) {
            return counted(BAD);
        }
        setFraction(a * home.people.sleepsInTent(sleeper), DRY_OF);
        return 1;
    }

    // ---- what there is

    public int part(int what) {
        if (what != 0 && what != 1) {
            return counted(BAD);
        }
        return what == 0 ? above : below;
    }

    public int image(int i) {
        if (!isIn(i, 0, IMAGES - 1)) {
            return counted(BAD);
        }
        images[i].copy(home);
        kept[i] = true;
        return 1;
    }

    public int from(int i) {
        if (!isIn(i, 0, IMAGES - 1)) {
            return counted(BAD);
        }
        if (!kept[i]) {
            return counted(NO);
        }
        home.copy(images[i]);
        return 1;
    }

    public int status(int what) {
        if (!isIn(what, 0, refusals.length - 1)) {
            return refused(BAD, -1);
        }
        return refusals[what];
    }

    public int count(int what) {
        return counted(isIn(what, 0, 5) ? howMany(what) : BAD);
    }

    public long digest() {
        long h = 587;
        for (int what = 0; what <= 5; what++) {
            h = 31 * h + howMany(what);
        }
        h = home.floor.digestOn(h);
        h = home.people.digestOn(h);
        h = home.sounds.digestOn(h);
        h = home.rules.digestOn(h);
        return 31 * (31 * h + above) + below;
    }

    // ---- helpers of the calls

    /** For answers that no other answer of the call is like. */
    private int counted(int answer) {
        return answer == BAD || answer == NO || answer == FULL ? refused(answer, answer) : answer;
    }

    private int refused(int reason, int answer) {
        int what = BAD - reason;
        if (isIn(what, 0, refusals.length - 1)) {
            refusals[what]++;
        }
        return answer;
    }

    private int howMany(int what) {
        switch (what) {
            case 0: return home.floor.wallCount();
            case 1: return home.floor.bedCount;
            case 2: return home.people.count;
            case 3: return home.sounds.count;
            case 4: return home.rules.count;
            default: return text.length;
        }
    }

    private void pass(House house, int fan) {
        tonight.ears.listenIn(house, fan);
        tonight.pass(house);
    }

    private boolean isThing(int thing, int x) {
        switch (thing) {
            case WAX: return home.people.has(x);
            case FAN: return x == 0;
            case BOARD: return isCell(x);
            case BALL: return home.people.has(x);
            default: return false;
        }
    }

    private void passWith(int thing, int x) {
        spare.copy(home);
        if (thing == WAX) {
            spare.people.hears[x] += 10;
        } else if (thing == BOARD) {
            spare.floor.creaks[x] = 0;
        } else if (thing == BALL) {
            spare.people.snores[x] = 0;
        }
        pass(spare, thing == FAN ? 5 : 0);
    }

    private void setFraction(int over, int under) {
        int divisor = commonDivisor(over, under);
        if (divisor > 0) {
            above = over / divisor;
            below = under / divisor;
        }
    }

    private boolean isOpen(int cell) {
        return isCell(cell) && !home.floor.walls[cell];
    }

    private static int commonDivisor(int a, int b) {
        int greater = a;
        int less = b;
        for (int i = 0; i < 100 && less > 0; i++) {
            int rest = greater % less;
            greater = less;
            less = rest;
        }
        return greater;
    }

    private static boolean isIn(int v, int least, int most) {
        return v >= least && v <= most;
    }

    private static boolean isCell(int cell) {
        return cell >= 0 && cell < CELLS;
    }

    /** What is left of v so many STEPS away, COVER aside. */
    private static int faded(int v, int steps, int fade) {
        return steps == NONE ? 0 : Math.max(0, v - fade * steps);
    }

    /** How DEEP she lies in a SLOT who fell ASLEEP in an earlier one, or in this. */
    private static int deep(int fell, int slot) {
        int turn = Math.floorMod(slot - fell, 6);
        return turn <= 3 ? turn : 6 - turn;
    }

    /** The cells, with walls, boards, the door and the beds. */
    private static final class Floor {
        final boolean[] walls = new boolean[CELLS];
        final int[] creaks = new int[CELLS];
        final int[] bedCells = new int[BEDS];
        int bedCount = 0;
        int fade = 2;
        int door = 0;

        void restart() {
            for (int i = 0; i < CELLS; i++) {
                walls[i] = false;
                creaks[i] = 0;
            }
            bedCount = 0;
            fade = 2;
            door = 0;
        }

        void copy(Floor other) {
            System.arraycopy(other.walls, 0, walls, 0, CELLS);
            System.arraycopy(other.creaks, 0, creaks, 0, CELLS);
            System.arraycopy(other.bedCells, 0, bedCells, 0, BEDS);
            bedCount = other.bedCount;
            fade = other.fade;
            door = other.door;
        }

        boolean hasBed(int bed) {
            return bed >= 0 && bed < bedCount;
        }

        private boolean hasBedAt(int cell) {
            for (int i = 0; i < bedCount; i++) {
                if (bedCells[i] == cell) {
                    return true;
                }
            }
            return false;
        }

        int wallCount() {
            int n = 0;
            for (boolean is : walls) {
                n += is ? 1 : 0;
            }
            return n;
        }

        int setWall(int cell, boolean is) {
            if (!isCell(cell) || cell == door || hasBedAt(cell)) {
                return BAD;
            }
            if (walls[cell] == is) {
                return NO;
            }
            walls[cell] = is;
            return 1;
        }

        int setCreak(int cell, int creak) {
            if (!isCell(cell) || !isIn(creak, 0, LOUDEST_CREAK)) {
                return BAD;
            }
            int was = creaks[cell];
            creaks[cell] = creak;
            return was;
        }

        int setFade(int v) {
            if (!isIn(v, 0, 9)) {
                return BAD;
            }
            int was = fade;
            fade = v;
            return was;
        }

        int setDoor(int cell) {
            if (!isCell(cell) || walls[cell]) {
                return BAD;
            }
            int was = door;
            door = cell;
            return was;
        }

        int addBed(int cell) {
            if (!isCell(cell) || walls[cell] || hasBedAt(cell)) {
                return BAD;
            }
            if (bedCount >= BEDS) {
                return FULL;
            }
            bedCells[bedCount] = cell;
            return bedCount++;
        }

        long digestOn(long before) {
            long h = before;
            for (int i = 0; i < CELLS; i++) {
                h = 31 * h + (walls[i] ? 1 : 0);
                h = 31 * h + creaks[i];
            }
            h = 31 * h + fade;
            h = 31 * h + door;
            for (int i = 0; i < bedCount; i++) {
                h = 31 * h + bedCells[i];
            }
            return h;
        }
    }

    /** The sleepers, and in which bed each lies. */
    private static final class People {
        final int[] hears = new int[SLEEPERS];
        final int[] again = new int[SLEEPERS];
        final int[] goes = new int[SLEEPERS];
        final int[] up = new int[SLEEPERS];
        final int[] snores = new int[SLEEPERS];
        final int[] lies = new int[SLEEPERS];
        int count = 0;

        void copy(People other) {
            System.arraycopy(other.hears, 0, hears, 0, SLEEPERS);
            System.arraycopy(other.again, 0, again, 0, SLEEPERS);
            System.arraycopy(other.goes, 0, goes, 0, SLEEPERS);
            System.arraycopy(other.up, 0, up, 0, SLEEPERS);
            System.arraycopy(other.snores, 0, snores, 0, SLEEPERS);
            System.arraycopy(other.lies, 0, lies, 0, SLEEPERS);
            count = other.count;
        }

        boolean has(int sleeper) {
            return sleeper >= 0 && sleeper < count;
        }

        int add(int ears, int calm, int slot, int until, int snore) {
            if (!isIn(ears, 1, LOUDEST) || !isIn(calm, 1, 9) || !isIn(slot, 0, SLOTS - 1)
                    || !isIn(until, slot + 1, SLOTS) || !isIn(snore, 0, LOUDEST)) {
                return BAD;
            }
            if (count >= SLEEPERS) {
                return FULL;
            }
            hears[count] = ears;
            again[count] = calm;
            goes[count] = slot;
            up[count] = until;
            snores[count] = snore;
            lies[count] = NONE;
            return count++;
        }

        boolean isTakenFor(int sleeper, int bed) {
            for (int i = 0; i < count; i++) {
                if (i != sleeper && lies[i] == bed) {
                    return true;
                }
            }
            return false;
        }

        int sleepsInTent(int sleeper) {
            return Math.max(0, up[sleeper] - goes[sleeper] - again[sleeper]);
        }

        long digestOn(long before) {
            long h = before;
            for (int i = 0; i < count; i++) {
                h = 31 * h + hears[i];
                h = 31 * h + again[i];
                h = 31 * h + goes[i];
                h = 31 * h + up[i];
                h = 31 * h + snores[i];
                h = 31 * h + lies[i];
            }
            return h;
        }
    }

    /** The sounds, one over another. */
    private static final class Sounds {
        final int[] kinds = new int[SOUNDS];
        final int[] xs = new int[SOUNDS];
        final int[] starts = new int[SOUNDS];
        final int[] ends = new int[SOUNDS];
        final int[] vs = new int[SOUNDS];
        int count = 0;

        void copy(Sounds other) {
            System.arraycopy(other.kinds, 0, kinds, 0, SOUNDS);
            System.arraycopy(other.xs, 0, xs, 0, SOUNDS);
            System.arraycopy(other.starts, 0, starts, 0, SOUNDS);
            System.arraycopy(other.ends, 0, ends, 0, SOUNDS);
            System.arraycopy(other.vs, 0, vs, 0, SOUNDS);
            count = other.count;
        }

        int add(int kind, int x, int a, int b, int v) {
            if (!isIn(a, 0, SLOTS - 1) || !isIn(b, a, SLOTS - 1) || !isIn(v, 0, LOUDEST)) {
                return BAD;
            }
            if (count >= SOUNDS) {
                return FULL;
            }
            kinds[count] = kind;
            xs[count] = x;
            starts[count] = a;
            ends[count] = b;
            vs[count] = v;
            return count++;
        }

        int dropLast() {
            if (count == 0) {
                return NO;
            }
            count--;
            return 1;
        }

        /** Whether it is due in a SLOT; one that is TURNED hangs on the sleeper besides. */
        boolean isDue(int i, int slot) {
            if (slot < starts[i] || slot > ends[i]) {
                return false;
            }
            switch (kinds[i]) {
                case CRIED: return (slot - starts[i]) % 4 == 0;
                case RUNG: return slot == starts[i];
                default: return kinds[i] != COVERING;
            }
        }

        int coverIn(int slot) {
            int cover = 0;
            for (int i = 0; i < count; i++) {
                if (kinds[i] == COVERING && slot >= starts[i] && slot <= ends[i]) {
                    cover += vs[i];
                }
            }
            return cover;
        }

        long digestOn(long before) {
            long h = before;
            for (int i = 0; i < count; i++) {
                h = 31 * h + kinds[i];
                h = 31 * h + xs[i];
                h = 31 * h + starts[i];
                h = 31 * h + ends[i];
                h = 31 * h + vs[i];
            }
            return h;
        }
    }

    /** Who has to lie where, or must not. */
    private static final class Rules {
        final int[] sleepers = new int[RULES];
        final int[] beds = new int[RULES];
        final boolean[] has = new boolean[RULES];
        int count = 0;

        void copy(Rules other) {
            System.arraycopy(other.sleepers, 0, sleepers, 0, RULES);
            System.arraycopy(other.beds, 0, beds, 0, RULES);
            System.arraycopy(other.has, 0, has, 0, RULES);
            count = other.count;
        }

        int add(int sleeper, int bed, boolean must) {
            if (count >= RULES) {
                return FULL;
            }
            sleepers[count] = sleeper;
            beds[count] = bed;
            has[count] = must;
            return count++;
        }

        boolean allow(int[] row) {
            for (int i = 0; i < count; i++) {
                if ((row[sleepers[i]] == beds[i]) != has[i]) {
                    return false;
                }
            }
            return true;
        }

        long digestOn(long before) {
            long h = before;
            for (int i = 0; i < count; i++) {
                h = 31 * h + sleepers[i];
                h = 31 * h + beds[i];
                h = 31 * h + (has[i] ? 1 : 0);
            }
            return h;
        }
    }

    /** All that an image keeps. */
    private static final class House {
        final Floor floor = new Floor();
        final People people = new People();
        final Sounds sounds = new Sounds();
        final Rules rules = new Rules();

        void restart() {
            floor.restart();
            people.count = 0;
            sounds.count = 0;
            rules.count = 0;
        }

        void copy(House other) {
            floor.copy(other.floor);
            people.copy(other.people);
            sounds.copy(other.sounds);
            rules.copy(other.rules);
        }

        /** Where she lay, BAD or NO. */
        int lay(int sleeper, int bed) {
            if (!people.has(sleeper) || bed != NONE && !floor.hasBed(bed)) {
                return BAD;
            }
            if (bed != NONE && people.isTakenFor(sleeper, bed)) {
                return NO;
            }
            int was = people.lies[sleeper];
            people.lies[sleeper] = bed;
            return was;
        }

        int addSound(int kind, int x, int a, int b, int v) {
            return isOf(kind, x) ? sounds.add(kind, x, a, b, v) : BAD;
        }

        private boolean isOf(int kind, int x) {
            switch (kind) {
                case NOISE: return isCell(x);
                case COVERING: return x == 0;
                case CRIED:
                case TURNED:
                case RUNG: return people.has(x);
                default: return false;
            }
        }

        /** An ITEM of THE TEXT, answered as its call is (a lie as lay is). */
        int take(int word, int[] n) {
            switch (word) {
                case Text.WALL: return floor.setWall(n[0], true);
                case Text.BOARD: return floor.setCreak(n[0], n[1]);
                case Text.FADE: return floor.setFade(n[0]);
                case Text.DOOR: return floor.setDoor(n[0]);
                case Text.BED: return floor.addBed(n[0]);
                case Text.SLEEPER: return people.add(n[0], n[1], n[2], n[3], n[4]);
                case Text.LIE: return lay(n[0], n[1]);
                default: return addSound(word - Text.FIRST_SOUND, n[0], n[1], n[2], n[3]);
            }
        }
    }

    /** DISTANCES from a cell, and the WAYS that follow from them. */
    private static final class Reach {
        private final int[] queue = new int[CELLS];

        /** Fills far with the STEPS from start to each cell (NONE: not reached). */
        void spread(boolean[] closed, int start, int[] far) {
            Arrays.fill(far, NONE);
            if (closed[start]) {
                return;
            }
            far[start] = 0;
            queue[0] = start;
            int end = 1;
            for (int i = 0; i < CELLS && i < end; i++) {
                int cell = queue[i];
                for (int step = 0; step < STEPS; step++) {
                    int next = beside(cell, step);
                    if (next != NONE && !closed[next] && far[next] == NONE && end < CELLS) {
                        far[next] = far[cell] + 1;
                        queue[end++] = next;
                    }
                }
            }
        }

        static int beside(int cell, int step) {
            int column = cell % SIDE;
            switch (step) {
                case 0: return cell >= SIDE ? cell - SIDE : NONE;
                case 1: return column < SIDE - 1 ? cell + 1 : NONE;
                case 2: return cell < CELLS - SIDE ? cell + SIDE : NONE;
                default: return column > 0 ? cell - 1 : NONE;
            }
        }

        /** The cell behind the first STEP of the WAY to where far is 0; NONE at its end. */
        static int onward(int cell, int[] far) {
            if (far[cell] <= 0) {
                return NONE;
            }
            for (int step = 0; step < STEPS; step++) {
                int next = beside(cell, step);
                if (next != NONE && far[next] == far[cell] - 1) {
                    return next;
                }
            }
            return NONE;
        }
    }

    /** What is heard in the beds of a house, COVER aside, whoever lies in them. */
    private static final class Ears {
        private final Reach reach = new Reach();
        private final int[][] far = new int[BEDS][CELLS];
        private final int[] farFromDoor = new int[CELLS];
        /** By the bed of who walks, and the bed of who listens. */
        final int[][] comings = new int[BEDS][BEDS];
        final int[][] goings = new int[BEDS][BEDS];
        /** By the SOUND (of KIND 0) and the bed of who listens. */
        final int[][] noises = new int[SOUNDS][BEDS];
        final int[] cover = new int[SLOTS];
        /** Bits of the SOUNDS that are due. */
        final int[] due = new int[SLOTS];
        /** What a NOISE loses from a bed to the bed of who listens. */
        final int[][] losses = new int[BEDS][BEDS];
        private Floor floor = new Floor();

        void measure(Floor of) {
            floor = of;
            for (int bed = 0; bed < of.bedCount; bed++) {
                reach.spread(of.walls, of.bedCells[bed], far[bed]);
            }
        }

        private void measureBeds() {
            for (int bed = 0; bed < floor.bedCount; bed++) {
                for (int from = 0; from < floor.bedCount; from++) {
                    int steps = far[bed][floor.bedCells[from]];
                    losses[from][bed] = steps == NONE ? LOUDEST : floor.fade * steps;
                }
            }
        }

        void listenIn(House house, int fan) {
            measure(house.floor);
            measureBeds();
            reach.spread(floor.walls, floor.door, farFromDoor);
            for (int bed = 0; bed < floor.bedCount; bed++) {
                walk(floor.door, far[bed], comings[bed]);
                walk(floor.bedCells[bed], farFromDoor, goings[bed]);
            }
            for (int slot = 0; slot < SLOTS; slot++) {
                cover[slot] = fan + house.sounds.coverIn(slot);
                due[slot] = 0;
            }
            for (int i = 0; i < house.sounds.count; i++) {
                listenTo(house.sounds, i);
            }
        }

        private void listenTo(Sounds sounds, int i) {
            for (int slot = 0; slot < SLOTS; slot++) {
                if (sounds.isDue(i, slot)) {
                    due[slot] |= 1 << i;
                }
            }
            if (sounds.kinds[i] == NOISE) {
                for (int bed = 0; bed < floor.bedCount; bed++) {
                    noises[i][bed] = at(bed, sounds.xs[i], sounds.vs[i]);
                }
            }
        }

        /** The greatest creak heard in each bed of the WAY from start to where farFromEnd is 0. */
        private void walk(int start, int[] farFromEnd, int[] heard) {
            Arrays.fill(heard, 0);
            int cell = start;
            for (int i = farFromEnd[start]; i > 0; i--) {
                cell = Reach.onward(cell, farFromEnd);
                if (cell == NONE) {
                    return;
                }
                for (int bed = 0; bed < floor.bedCount; bed++) {
                    heard[bed] = Math.max(heard[bed], at(bed, cell, floor.creaks[cell]));
                }
            }
        }

        /** What is heard in a bed of a NOISE of v at a cell. */
        int at(int bed, int cell, int v) {
            return faded(v, far[bed][cell], floor.fade);
        }
    }

    /** A night slot by slot, and what came of it. */
    private static final class Night {
        final int[] sleeps = new int[SLEEPERS];
        final int[] wakings = new int[SLEEPERS];
        final int[][] woken = new int[SLEEPERS][SLOTS];
        final int[][] seen = new int[SLEEPERS][SLOTS];
        final Ears ears = new Ears();
        private final int[] state = new int[SLEEPERS];
        private final int[] fell = new int[SLEEPERS];
        private final int[] quiet = new int[SLEEPERS];
        private People people = new People();
        private Sounds sounds = new Sounds();
        /** Bits of those who come or go, who are AWAKE, who snore, in this SLOT ahead of 4. */
        private int walking;
        private int awake;
        private int snoring;
        private int loudest;
        private int by;

        /** The ears are told of the house apart, as many rows of beds are passed in one house. */
        void pass(House house) {
            people = house.people;
            sounds = house.sounds;
            for (int s = 0; s < people.count; s++) {
                state[s] = OUT;
                sleeps[s] = 0;
                wakings[s] = 0;
            }
            for (int slot = 0; slot < SLOTS; slot++) {
                comeAndGo(slot);
                lookRound(slot);
                for (int s = 0; s < people.count; s++) {
                    if (state[s] != OUT) {
                        listen(s, slot);
                        stir(s, slot);
                    }
                    note(s, slot);
                }
            }
        }

        private void comeAndGo(int slot) {
            walking = 0;
            for (int s = 0; s < people.count; s++) {
                if (people.lies[s] == NONE) {
                    continue;
                }
                if (people.goes[s] == slot) {
                    walking |= 1 << s;
                    state[s] = AWAKE;
                    quiet[s] = 0;
                } else if (people.up[s] == slot) {
                    walking |= 1 << s;
                    state[s] = OUT;
                }
            }
        }

        /** Kept apart from 4, in which one who wakes is not yet heard by the next. */
        private void lookRound(int slot) {
            awake = 0;
            snoring = 0;
            for (int s = 0; s < people.count; s++) {
                if (state[s] == AWAKE) {
                    awake |= 1 << s;
                } else if (state[s] == ASLEEP && deep(fell[s], slot) >= 2) {
                    snoring |= 1 << s;
                }
            }
        }

        private void stir(int s, int slot) {
            int noise = Math.max(0, loudest - ears.cover[slot]);
            if (state[s] == ASLEEP) {
                if (noise >= people.hears[s] + 4 * deep(fell[s], slot)) {
                    state[s] = AWAKE;
                    quiet[s] = 0;
                    woken[s][wakings[s]] = 100 * slot + by;
                    wakings[s]++;
                }
                return;
            }
            quiet[s] = noise < people.hears[s] ? quiet[s] + 1 : 0;
            if (quiet[s] >= people.again[s]) {
                state[s] = ASLEEP;
                fell[s] = slot;
            }
        }

        private void note(int s, int slot) {
            if (state[s] == ASLEEP) {
                sleeps[s]++;
                seen[s][slot] = ASLEEP + deep(fell[s], slot);
            } else {
                seen[s][slot] = state[s];
            }
        }

        private void listen(int s, int slot) {
            loudest = 0;
            by = NONE;
            int bed = people.lies[s];
            int others = ~(1 << s);
            if ((walking & others) != 0) {
                listenToSteps(bed, walking & others, slot);
            }
            if (ears.due[slot] != 0) {
                listenToSounds(s, bed, ears.due[slot]);
            }
            if ((snoring & others) != 0) {
                listenToSnores(bed, snoring & others);
            }
        }

        private void listenToSteps(int bed, int whose, int slot) {
            for (int s = 0; s < people.count; s++) {
                if ((whose >> s & 1) != 0) {
                    boolean comes = people.goes[s] == slot;
                    int[] steps = comes ? ears.comings[people.lies[s]] : ears.goings[people.lies[s]];
                    hear(steps[bed], s);
                }
            }
        }

        private void listenToSounds(int s, int bed, int due) {
            for (int i = 0; i < sounds.count; i++) {
                if ((due >> i & 1) == 0) {
                    continue;
                }
                int x = sounds.xs[i];
                if (sounds.kinds[i] == NOISE) {
                    hear(ears.noises[i][bed], 10 + i);
                } else if (x != s && people.lies[x] != NONE
                        && (sounds.kinds[i] != TURNED || (awake >> x & 1) != 0)) {
                    hear(sounds.vs[i] - ears.losses[people.lies[x]][bed], x);
                }
            }
        }

        private void listenToSnores(int bed, int whose) {
            for (int s = 0; s < people.count; s++) {
                if ((whose >> s & 1) != 0) {
                    hear(people.snores[s] - ears.losses[people.lies[s]][bed], s);
                }
            }
        }

        /** Of like ones the first stays. */
        private void hear(int v, int whose) {
            if (v > loudest) {
                loudest = v;
                by = whose;
            }
        }

        int worst() {
            int least = people.count == 0 ? 0 : SLOTS;
            for (int s = 0; s < people.count; s++) {
                least = Math.min(least, sleeps[s]);
            }
            return least;
        }

        int good() {
            int all = 0;
            for (int s = 0; s < people.count; s++) {
                all += sleeps[s];
            }
            return all;
        }

        boolean isBetter(int worst, int good) {
            int least = worst();
            return least > worst || least == worst && good() > good;
        }

        int lack(int s) {
            return Math.max(0, ENOUGH_SLEEP - sleeps[s]);
        }

        /** Of those two who lack most together; 0 if there are no two. */
        int greatestLackOfTwo() {
            int greatest = 0;
            for (int a = 0; a < people.count; a++) {
                for (int b = a + 1; b < people.count; b++) {
                    greatest = Math.max(greatest, lack(a) + lack(b));
                }
            }
            return greatest;
        }

        int wakingsBy(int a, int b) {
            int n = 0;
            for (int i = 0; i < wakings[b]; i++) {
                if (woken[b][i] % 100 == a) {
                    n++;
                }
            }
            return n;
        }

        /** Of each by each other who has the like bit. */
        int wakingsTogether(int bits) {
            int n = 0;
            for (int a = 0; a < people.count; a++) {
                for (int b = 0; b < people.count; b++) {
                    if (a != b && (bits >> a & 1) == (bits >> b & 1)) {
                        n += wakingsBy(a, b);
                    }
                }
            }
            return n;
        }
    }

    /** Tries all rows of beds or of goes, the first ones first. */
    private static final class Search {
        final int[] best = new int[SLEEPERS];
        int worst;
        private int good;
        private boolean found;
        private final int[] row = new int[SLEEPERS];
        private final House trial = new House();
        private final Night night = new Night();

        boolean findBeds(House house, boolean rules) {
            start(house);
            int sleepers = house.people.count;
            int rows = power(house.floor.bedCount, sleepers);
            for (int i = 0; i < rows; i++) {
                fillRow(i, house.floor.bedCount, sleepers);
                if (isUnlike(sleepers) && (!rules || house.rules.allow(row))) {
                    System.arraycopy(row, 0, trial.people.lies, 0, sleepers);
                    night.pass(trial);
                    keepIfBetter();
                }
            }
            return found;
        }

        boolean findGoes(House house) {
            start(house);
            int sleepers = house.people.count;
            int rows = power(sleepers, sleepers);
            for (int i = 0; i < rows; i++) {
                fillRow(i, sleepers, sleepers);
                if (isUnlike(sleepers) && exchange(house.people)) {
                    night.pass(trial);
                    keepIfBetter();
                }
            }
            return found;
        }

        private void start(House house) {
            found = false;
            worst = 0;
            good = 0;
            trial.copy(house);
            night.ears.listenIn(trial, 0);
        }

        /** Whether each is still below her UP. */
        private boolean exchange(People people) {
            for (int s = 0; s < people.count; s++) {
                int goes = people.goes[row[s]];
                if (goes >= people.up[s]) {
                    return false;
                }
                trial.people.goes[s] = goes;
            }
            return true;
        }

        private void keepIfBetter() {
            if (!found || night.isBetter(worst, good)) {
                found = true;
                worst = night.worst();
                good = night.good();
                System.arraycopy(row, 0, best, 0, SLEEPERS);
            }
        }

        /** The i-th row (0 on) of n numbers below base. */
        private void fillRow(int i, int base, int n) {
            int rest = i;
            for (int k = n - 1; k >= 0 && base > 0; k--) {
                row[k] = rest % base;
                rest /= base;
            }
        }

        private boolean isUnlike(int n) {
            int seen = 0;
            for (int k = 0; k < n; k++) {
                if ((seen >> row[k] & 1) != 0) {
                    return false;
                }
                seen |= 1 << row[k];
            }
            return true;
        }

        private static int power(int base, int n) {
            int power = 1;
            for (int k = 0; k < n; k++) {
                power *= base;
            }
            return power;
        }
    }

    /** The WAY that is LEAST HEARD. */
    private static final class Hush {
        int greatest;
        int steps;
        int second;
        private final Ears ears = new Ears();
        private final Reach reach = new Reach();
        private final int[] loud = new int[CELLS];
        private final boolean[] closed = new boolean[CELLS];
        private final int[] far = new int[CELLS];

        boolean find(House house, int a, int b) {
            listenIn(house);
            // with no cell louder than this, the way with the fewest STEPS is the one asked for
            for (int most = 0; most <= LOUDEST_CREAK; most++) {
                for (int c = 0; c < CELLS; c++) {
                    closed[c] = house.floor.walls[c] || c != a && loud[c] > most;
                }
                reach.spread(closed, b, far);
                if (far[a] != NONE) {
                    greatest = most;
                    steps = far[a];
                    second = Reach.onward(a, far);
                    return true;
                }
            }
            return false;
        }

        private void listenIn(House house) {
            ears.measure(house.floor);
            for (int c = 0; c < CELLS; c++) {
                loud[c] = 0;
                for (int s = 0; s < house.people.count; s++) {
                    int bed = house.people.lies[s];
                    if (bed != NONE) {
                        loud[c] = Math.max(loud[c], ears.at(bed, c, house.floor.creaks[c]));
                    }
                }
            }
        }
    }

    /** THE TEXT, and the ITEMS in it. */
    private static final class Text {
        static final int WALL = 0;
        static final int BOARD = 1;
        static final int FADE = 2;
        static final int DOOR = 3;
        static final int BED = 4;
        static final int SLEEPER = 5;
        static final int LIE = 6;
        static final int FIRST_SOUND = 7;
        private static final String WORDS =
                "wall board fade door bed sleeper lie noise cried turned rung out ";
        private static final int[] NUMBERS = {1, 2, 1, 1, 1, 5, 2, 4, 4, 4, 4, 4};
        private static final int MOST_NUMBERS = 5;
        /** As none takes less than five bytes, as in bed1; */
        private static final int MOST_ITEMS = BYTES / 5;

        int length = 0;
        int items = 0;
        final int[] words = new int[MOST_ITEMS];
        final int[][] numbers = new int[MOST_ITEMS][MOST_NUMBERS];
        private final int[] bytes = new int[BYTES];
        private int at;

        int append(long v, int n) {
            if (!isIn(n, 1, 8)) {
                return BAD;
            }
            if (length + n > BYTES) {
                return FULL;
            }
            for (int i = n - 1; i >= 0; i--) {
                bytes[length++] = (int) (v >>> 8 * i & 255);
            }
            return length;
        }

        int empty() {
            int had = length;
            length = 0;
            return had;
        }

        /** The FAULT, or NONE: then the ITEMS stand in words and numbers. */
        int read() {
            items = 0;
            at = 0;
            skipBlanks();
            for (int i = 0; i < BYTES && at < length; i++) {
                int fault = readItem();
                if (fault != NONE) {
                    return fault;
                }
                items++;
                skipBlanks();
            }
            return NONE;
        }

        private int readItem() {
            int start = at;
            int word = readWord();
            if (word == NONE || items >= MOST_ITEMS) {
                return start;
            }
            words[items] = word;
            for (int i = 0; i < NUMBERS[word]; i++) {
                skipBlanks();
                start = at;
                int number = readNumber();
                if (number == NONE) {
                    return start;
                }
                numbers[items][i] = number;
            }
            skipBlanks();
            if (byteAt(at) != ';') {
                return at;
            }
            at++;
            return NONE;
        }

        private void skipBlanks() {
            for (int i = 0; i < BYTES && byteAt(at) == ' '; i++) {
                at++;
            }
        }

        /** NONE behind the end, which is no byte that could stand anywhere. */
        private int byteAt(int place) {
            return place < length ? bytes[place] : NONE;
        }

        private int readWord() {
            int start = at;
            for (int i = 0; i < BYTES && byteAt(at) >= 'a' && byteAt(at) <= 'z'; i++) {
                at++;
            }
            int word = 0;
            int from = 0;
            for (int i = 0; i < WORDS.length(); i++) {
                if (WORDS.charAt(i) == ' ') {
                    if (isSame(start, from, i)) {
                        return word;
                    }
                    word++;
                    from = i + 1;
                }
            }
            return NONE;
        }

        /** Whether the bytes from start up to here are those of WORDS in from .. to - 1. */
        private boolean isSame(int start, int from, int to) {
            if (at - start != to - from) {
                return false;
            }
            for (int i = from; i < to; i++) {
                if (bytes[start + i - from] != WORDS.charAt(i)) {
                    return false;
                }
            }
            return true;
        }

        private int readNumber() {
            int figures = 0;
            int number = 0;
            for (int i = 0; i < BYTES && byteAt(at) >= '0' && byteAt(at) <= '9'; i++) {
                number = figures < 2 ? 10 * number + byteAt(at) - '0' : number;
                figures++;
                at++;
            }
            return figures == 1 || figures == 2 ? number : NONE;
        }
    }
}
