/**
 * An egg and spoon race: runners, eggs, paces that are told, and what can be asked of them.
 * The numbered promises that it keeps stand in ../shared/DOC.md.
 */
public final class EggSpoons {
    public static final int NONE = -1, BAD = -2, NO = -3, FULL = -4;

    private static final int MOST_RUNNERS = 6;
    private static final int KINDS = 6;
    private static final int MOST_LEGS = 9;
    private static final int MOST_SPEED = 9;
    private static final int MOST_START = 30;
    private static final int MOST_FAR = 15;
    private static final int MOST_DROPS = 99;
    private static final int AHEAD = 60;
    private static final int LAST_TICK = 9999;
    private static final int LAST_TOLD_TICK = 99;
    private static final int FIRST_LENGTH = 20;
    private static final int LEAST_LENGTH = 10;
    private static final int MOST_LENGTH = 60;

    // What a look parts; at is 10 t and s, but for eggs the tick alone.
    private static final int BY_LEGS = 0;
    private static final int BY_KIND = 1;
    private static final int BY_EGG = 2;

    private Race now = new Race();
    private Race spare = new Race();
    private final Race[] images = {new Race(), new Race()};
    private final boolean[] imageKept = new boolean[2];
    private final Reader reader = new Reader();
    private final int[] refused = new int[3];
    private long above = 0;
    private long below = 1;

    // Made once and used by every question, so that asking makes no new objects.
    private final Runner ghost = new Runner();
    private final Runner rival = new Runner();
    private final Tally tally = new Tally();
    private final Odds odds = new Odds();
    private final Duel duel = new Duel();
    private final int[] ranks = new int[MOST_RUNNERS];

    public EggSpoons() {
    }

    // ---- a race

    public int race(int l) {
        if (!within(l, LEAST_LENGTH, MOST_LENGTH)) {
            return refuse(BAD);
        }
        int before = now.runners;
        now.restart(l);
        return before;
    }

    public int one(int kind, int legs, int egg) {
        if (!within(kind, 0, KINDS - 1) || !within(legs, 1, MOST_LEGS) || !within(egg, 0, KINDS - 1)) {
            return refuse(BAD);
        }
        if (now.runners >= MOST_RUNNERS) {
            return refuse(FULL);
        }
        now.welcome(kind, legs, egg);
        return now.runners - 1;
    }

    public int type(int c) {
        if (!within(c, 0, 127)) {
            return refuse(BAD);
        }
        return reader.append(c) ? reader.length : refuse(FULL);
    }

    public int clear() {
        int before = reader.length;
        reader.length = 0;
        return before;
    }

    public int read() {
        int items = reader.takeRace(spare);
        if (items >= 0) {
            Race old = now;
            now = spare;
            spare = old;
        }
        return items;
    }

    // ---- ticks

    public int ticks(int n) {
        if (!within(n, 1, 60)) {
            return refuse(BAD);
        }
        // At the last tick nothing goes by, so there is nothing that could be undone.
        if (now.tick < LAST_TICK) {
            now.keep();
        }
        for (int k = 0; k < n && now.tick < LAST_TICK; k++) {
            now.goOn();
        }
        return now.homes();
    }

    public int speed(int i, int s) {
        if (!there(i) || !within(s, 0, MOST_SPEED)) {
            return refuse(BAD);
        }
        Runner runner = now.row[i];
        int before = runner.speed;
        if (before == s || runner.isHome()) {
            return refuse(NO);
        }
        now.keep();
        runner.speed = s;
        return before;
    }

    public int start(int i, int x) {
        if (!there(i) || !within(x, 1, MOST_START)) {
            return refuse(BAD);
        }
        Runner runner = now.row[i];
        if (runner.isHome() || runner.place + x >= now.length) {
            return refuse(NO);
        }
        now.keep();
        runner.place += x;
        return runner.place;
    }

    public int undo() {
        return now.takeBack() ? now.tick : refuse(NO);
    }

    public int of(int i, int what) {
        if (!there(i) || !within(what, 0, 9)) {
            return refuse(BAD);
        }
        return now.row[i].fact(what, now.tick + 1);
    }

    // ---- who is home

    public int where(int i, int m) {
        if (!there(i) || !within(m, 0, AHEAD)) {
            return refuse(BAD);
        }
        ghost.copyFrom(now.row[i]);
        return ghost.placeBehind(now.tick, now.length, m);
    }

    public int home(int i) {
        return there(i) ? homeBehind(i, AHEAD) : refuse(BAD);
    }

    public int first() {
        int who = NONE;
        int limit = AHEAD;
        for (int i = 0; i < now.runners; i++) {
            int behind = now.row[i].isHome() ? NONE : homeBehind(i, limit);
            if (behind != NONE) {
                who = i;
                limit = behind - 1;
            }
        }
        return who;
    }

    public int order(int k) {
        if (k < 0) {
            return refuse(BAD);
        }
        if (k >= now.runners) {
            return refuse(NO);
        }
        rankAll();
        for (int i = 0; i < now.runners; i++) {
            if (aheadOf(i) == k) {
                return i;
            }
        }
        return NONE;
    }

    public int best(int i, int what) {
        if (!there(i) || !within(what, 0, 1)) {
            return refuse(BAD);
        }
        if (now.row[i].isHome()) {
            return NONE;
        }
        int found = NONE;
        int soonest = NONE;
        int limit = AHEAD;
        for (int s = 0; s <= MOST_SPEED; s++) {
            ghost.copyFrom(now.row[i]);
            ghost.speed = s;
            int behind = ghost.ticksToHome(now.tick, now.length, limit);
            if (behind != NONE) {
                found = s;
                soonest = behind;
                limit = behind - 1;
            }
        }
        return what == 0 ? found : soonest;
    }

    public int turn(int i, int s, int what) {
        if (!there(i) || !within(s, 0, MOST_SPEED) || !within(what, 0, 1)) {
            return refuse(BAD);
        }
        if (now.row[i].isHome()) {
            return NONE;
        }
        int found = NONE;
        int soonest = NONE;
        int limit = AHEAD;
        for (int k = 0; k <= 30; k++) {
            int behind = homeTurning(i, s, k, limit);
            if (behind != NONE) {
                found = k;
                soonest = behind;
                limit = behind - 1;
            }
        }
        return what == 0 ? found : soonest;
    }

    public int beats(int a, int b) {
        if (!areTwo(a, b)) {
            return refuse(BAD);
        }
        Runner runner = now.row[a];
        if (runner.isHome() || now.row[b].isHome()) {
            return NONE;
        }
        int theirs = homeBehind(b, AHEAD);
        int limit = theirs == NONE ? AHEAD : theirs - 1;
        for (int x = 0; x <= MOST_START && runner.place + x < now.length; x++) {
            ghost.copyFrom(runner);
            ghost.place += x;
            if (ghost.ticksToHome(now.tick, now.length, limit) != NONE) {
                return x;
            }
        }
        return NONE;
    }

    public int close(int a, int b, int what) {
        if (!areTwo(a, b) || !within(what, 0, 1)) {
            return refuse(BAD);
        }
        ghost.copyFrom(now.row[a]);
        rival.copyFrom(now.row[b]);
        int found = 0;
        int least = Math.abs(ghost.place - rival.place);
        for (int k = 1; k <= AHEAD; k++) {
            ghost.step(now.tick + k, now.length);
            rival.step(now.tick + k, now.length);
            int apart = Math.abs(ghost.place - rival.place);
            if (apart < least) {
                least = apart;
                found = k;
            }
        }
        return what == 0 ? found : least;
    }

    // ---- how strong

    public int seen(int i, int t, int s, int x) {
        if (!there(i) || !within(t, 0, LAST_TOLD_TICK) || !within(s, 0, MOST_SPEED) || !within(x, 0, MOST_FAR)) {
            return refuse(BAD);
        }
        return now.seenRows.append(i, 0, t, s, x) ? now.seenRows.size : refuse(FULL);
    }

    public int strong(int i, int what) {
        if (!there(i) || !within(what, 0, 2)) {
            return refuse(BAD);
        }
        int bits = now.legsThatFit(i);
        if (what == 0) {
            return Integer.bitCount(bits);
        }
        int found = NONE;
        for (int l = 1; l <= MOST_LEGS; l++) {
            if (hasBit(bits, l) && (what == 2 || found == NONE)) {
                found = l;
            }
        }
        return found;
    }

    public int tell(int i) {
        if (!there(i)) {
            return refuse(BAD);
        }
        return nextLook(now.row[i], BY_LEGS, now.legsThatFit(i), 200);
    }

    public int note(int i, int l, int t, int s, int x) {
        if (!there(i) || !within(l, 1, MOST_LEGS) || !within(t, 0, LAST_TOLD_TICK)
                || !within(s, 0, MOST_SPEED) || !within(x, 0, MOST_FAR)) {
            return refuse(BAD);
        }
        return now.noteRows.append(i, l, t, s, x) ? now.noteRows.size : refuse(FULL);
    }

    public int mark(int i, int t, int x) {
        if (!there(i) || !within(t, 0, LAST_TOLD_TICK) || !within(x, 0, MOST_FAR)) {
            return refuse(BAD);
        }
        return now.markRows.append(i, 0, t, 0, x) ? now.markRows.size : refuse(FULL);
    }

    public int forget(int what) {
        if (!within(what, 0, 2)) {
            return refuse(BAD);
        }
        Rows rows = what == 0 ? now.seenRows : what == 1 ? now.noteRows : now.markRows;
        int before = rows.size;
        rows.size = 0;
        return before;
    }

    public int is(int i) {
        return there(i) ? now.kindsThatFit(i) : refuse(BAD);
    }

    public int look(int i) {
        if (!there(i)) {
            return refuse(BAD);
        }
        return nextLook(now.row[i], BY_KIND, now.kindsThatFit(i), 200);
    }

    public int kinds(int i) {
        return there(i) ? now.eggsThatFit(i) : refuse(BAD);
    }

    public int ask(int i) {
        if (!there(i)) {
            return refuse(BAD);
        }
        return nextLook(now.row[i], BY_EGG, now.eggsThatFit(i), 20);
    }

    public int pair(int a, int b, int k) {
        if (!areTwo(a, b) || k < NONE) {
            refuse(BAD);
            return -10;
        }
        for (int s = 0; s <= MOST_SPEED; s++) {
            duel.put(s, placeBehindFive(a, s), placeBehindFive(b, s));
        }
        int resting = duel.weigh(now.row[a].place, now.row[b].place);
        if (k == NONE) {
            return resting;
        }
        return k < resting ? duel.restingPair(k) : -5;
    }

    public int stumble(int i, int x, int n, int c) {
        if (!there(i) || !within(x, 0, 60) || !within(n, 0, 6) || !within(c, 0, 10)) {
            return refuse(BAD);
        }
        Runner runner = now.row[i];
        odds.pose(runner, now.length, now.tick + n, x, c);
        long ways = Odds.ways(odds, runner.place, runner.waits, n);
        long all = Odds.tenTo(n);
        long shared = Odds.commonPart(ways, all);
        if (shared > 0) {
            above = ways / shared;
            below = all / shared;
        }
        return 1;
    }

    public int races(int seed, int n) {
        if (!within(seed, 0, 999999) || !within(n, 0, 60)) {
            return refuse(BAD);
        }
        spare.copyLine(now);
        long x = seed;
        for (int k = 0; k < n; k++) {
            x = (x * 1103515245L + 12345L) % 2147483648L;
            int i = (int) (x / 65536 % 6);
            if (i < spare.runners) {
                spare.row[i].speed = (int) (x / 1048576 % 10);
            }
            spare.goOn();
        }
        return spare.homes();
    }

    // ---- what there is

    public long part(int what) {
        if (!within(what, 0, 1)) {
            return refuse(BAD);
        }
        return what == 0 ? above : below;
    }

    public int image(int i) {
        if (!within(i, 0, 1)) {
            return refuse(BAD);
        }
        images[i].copyFrom(now);
        imageKept[i] = true;
        return 1;
    }

    public int from(int i) {
        if (!within(i, 0, 1)) {
            return refuse(BAD);
        }
        if (!imageKept[i]) {
            return refuse(NO);
        }
        now.copyFrom(images[i]);
        return 1;
    }

    public int status(int what) {
        if (!within(what, 0, 2)) {
            refuse(BAD);
            return -1;
        }
        return refused[what];
    }

    public int count(int what) {
        switch (what) {
            case 0: return now.runners;
            case 1: return now.homes();
            case 2: return now.length;
            case 3: return now.tick;
            case 4: return now.placesTogether();
            case 5: return now.dropsTogether();
            case 6: return now.seenRows.size;
            case 7: return now.noteRows.size;
            case 8: return now.markRows.size;
            case 9: return now.past.size;
            case 10: return reader.length;
            default: return refuse(BAD);
        }
    }

    public long digest() {
        long h = 1789;
        for (int what = 0; what <= 10; what++) {
            h = 31 * h + count(what);
        }
        for (int i = 0; i < now.runners; i++) {
            for (int what = 0; what <= 7; what++) {
                h = 31 * h + now.row[i].fact(what, now.tick + 1);
            }
        }
        h = now.seenRows.mixInto(h);
        h = now.noteRows.mixInto(h);
        h = now.markRows.mixInto(h);
        h = 31 * h + above;
        return 31 * h + below;
    }

    // ---- what the calls share

    private static boolean within(int value, int least, int most) {
        return value >= least && value <= most;
    }

    private static boolean hasBit(int bits, int k) {
        return (bits >> k & 1) == 1;
    }

    private boolean there(int i) {
        return i >= 0 && i < now.runners;
    }

    private boolean areTwo(int a, int b) {
        return there(a) && there(b) && a != b;
    }

    private int refuse(int reason) {
        int which = BAD - reason;
        if (which >= 0 && which < refused.length) {
            refused[which]++;
        }
        return reason;
    }

    private int homeBehind(int i, int limit) {
        ghost.copyFrom(now.row[i]);
        return ghost.ticksToHome(now.tick, now.length, limit);
    }

    private int homeTurning(int i, int s, int change, int limit) {
        int early = homeBehind(i, Math.min(change, limit));
        if (early != NONE || change >= limit) {
            return early;
        }
        ghost.speed = s;
        int late = ghost.ticksToHome(now.tick + change, now.length, limit - change);
        return late == NONE ? NONE : change + late;
    }

    // Who is home ranks by the tick, so whoever is not must rank behind every tick there is.
    private void rankAll() {
        for (int i = 0; i < now.runners; i++) {
            Runner runner = now.row[i];
            int behind = homeBehind(i, AHEAD);
            int later = behind == NONE ? AHEAD + 1 : behind;
            ranks[i] = runner.isHome() ? runner.homeAt : LAST_TICK + later;
        }
    }

    private int aheadOf(int i) {
        int ahead = 0;
        for (int j = 0; j < now.runners; j++) {
            if (ranks[j] < ranks[i] || ranks[j] == ranks[i] && j < i) {
                ahead++;
            }
        }
        return ahead;
    }

    // Nothing can be fewer than one alone, so the first look that parts all is the answer.
    private int nextLook(Runner runner, int sort, int bits, int looks) {
        int found = NONE;
        int fewest = Integer.bitCount(bits) + 1;
        for (int k = 0; k < looks && fewest > 1; k++) {
            int most = mostAlike(runner, sort, bits, k);
            if (most < fewest) {
                fewest = most;
                found = k;
            }
        }
        return found;
    }

    private int mostAlike(Runner runner, int sort, int bits, int at) {
        tally.restart();
        for (int guess = 0; guess <= MOST_LEGS; guess++) {
            if (hasBit(bits, guess)) {
                tally.see(farBy(runner, sort, guess, at));
            }
        }
        return tally.most;
    }

    private static int farBy(Runner runner, int sort, int guess, int at) {
        switch (sort) {
            case BY_LEGS: return Gait.reach(runner.kind, guess, at / 10, at % 10);
            case BY_KIND: return Gait.reach(guess, runner.legs, at / 10, at % 10);
            default: return Egg.limit(guess, at);
        }
    }

    private int placeBehindFive(int i, int s) {
        ghost.copyFrom(now.row[i]);
        ghost.speed = s;
        return ghost.placeBehind(now.tick, now.length, 5);
    }

    /** The kinds of runners, each said by the one that it is under. */
    private static final class Gait {
        static int reach(int kind, int legs, int tick, int speed) {
            int plain = speed < legs ? speed : legs;
            int striding = speed >= 5 ? plain + 1 : plain;
            int tired = plain > tick / 10 ? plain - tick / 10 : 0;
            switch (kind) {
                case 1: return striding;
                case 2: return tired;
                case 3: return tick % 5 == 4 ? striding + 3 : striding;
                case 4: return (plain + 1) / 2;
                case 5: return tick % 2 == 1 ? tired + 2 : tired;
                default: return plain;
            }
        }
    }

    /** The kinds of eggs, each said by the one that it is under. */
    private static final class Egg {
        static int limit(int kind, int tick) {
            int hens = 4;
            int boiled = hens + 1;
            int ducks = tick % 2 == 1 ? hens - 1 : hens;
            switch (kind) {
                case 1: return boiled;
                case 2: return ducks;
                case 3: return tick < 3 ? boiled + 3 : boiled;
                case 4: return ducks - 1;
                case 5: return tick % 4 == 0 ? boiled + 2 : boiled;
                default: return hens;
            }
        }
    }

    /** One runner with an egg. */
    private static final class Runner {
        int kind;
        int legs;
        int egg;
        int speed;
        int place;
        int drops;
        int waits;
        int homeAt;

        void begin(int newKind, int newLegs, int newEgg) {
            kind = newKind;
            legs = newLegs;
            egg = newEgg;
            speed = 4;
            place = 0;
            drops = 0;
            waits = 0;
            homeAt = NONE;
        }

        void copyFrom(Runner other) {
            kind = other.kind;
            legs = other.legs;
            egg = other.egg;
            speed = other.speed;
            place = other.place;
            drops = other.drops;
            waits = other.waits;
            homeAt = other.homeAt;
        }

        boolean isHome() {
            return homeAt != NONE;
        }

        int fact(int what, int nextTick) {
            switch (what) {
                case 0: return kind;
                case 1: return legs;
                case 2: return egg;
                case 3: return speed;
                case 4: return place;
                case 5: return drops;
                case 6: return waits;
                case 7: return homeAt;
                case 8: return Gait.reach(kind, legs, nextTick, speed);
                default: return Egg.limit(egg, nextTick);
            }
        }

        void step(int tick, int length) {
            if (isHome()) {
                return;
            }
            if (waits > 0) {
                waits--;
                return;
            }
            int far = Gait.reach(kind, legs, tick, speed);
            if (far > Egg.limit(egg, tick)) {
                drops = drops < MOST_DROPS ? drops + 1 : MOST_DROPS;
                waits = 2;
                return;
            }
            place += far;
            if (place >= length) {
                homeAt = tick;
            }
        }

        /** Moves this runner on, so only a ghost of one is asked. */
        int ticksToHome(int tick, int length, int limit) {
            if (isHome()) {
                return 0;
            }
            for (int k = 1; k <= limit; k++) {
                step(tick + k, length);
                if (isHome()) {
                    return k;
                }
            }
            return NONE;
        }

        /** Moves this runner on, so only a ghost of one is asked. */
        int placeBehind(int tick, int length, int ticks) {
            for (int k = 1; k <= ticks; k++) {
                step(tick + k, length);
            }
            return place;
        }
    }

    /** What was seen, noted or marked; a column that a sort of row does not have holds 0. */
    private static final class Rows {
        private static final int WIDTH = 5;
        private static final int WHO = 0;
        private static final int LEGS = 1;
        private static final int TICK = 2;
        private static final int SPEED = 3;
        private static final int FAR = 4;

        final int most;
        final boolean withLegs;
        final boolean withSpeed;
        final int[] cells;
        int size = 0;

        Rows(int mostRows, boolean hasLegs, boolean hasSpeed) {
            most = mostRows;
            withLegs = hasLegs;
            withSpeed = hasSpeed;
            cells = new int[mostRows * WIDTH];
        }

        boolean append(int i, int legs, int tick, int speed, int far) {
            if (size >= most) {
                return false;
            }
            int row = size * WIDTH;
            cells[row + WHO] = i;
            cells[row + LEGS] = legs;
            cells[row + TICK] = tick;
            cells[row + SPEED] = speed;
            cells[row + FAR] = far;
            size++;
            return true;
        }

        void copyFrom(Rows other) {
            size = other.size;
            System.arraycopy(other.cells, 0, cells, 0, Math.min(cells.length, other.size * WIDTH));
        }

        /** Rows without legs of their own are asked with the legs given. */
        boolean fitRunner(int i, int kind, int givenLegs) {
            for (int k = 0; k < size; k++) {
                int row = k * WIDTH;
                int legs = withLegs ? cells[row + LEGS] : givenLegs;
                if (cells[row + WHO] == i
                        && Gait.reach(kind, legs, cells[row + TICK], cells[row + SPEED]) != cells[row + FAR]) {
                    return false;
                }
            }
            return true;
        }

        boolean fitEgg(int i, int kind) {
            for (int k = 0; k < size; k++) {
                int row = k * WIDTH;
                if (cells[row + WHO] == i && Egg.limit(kind, cells[row + TICK]) != cells[row + FAR]) {
                    return false;
                }
            }
            return true;
        }

        long mixInto(long start) {
            long h = start;
            for (int k = 0; k < size; k++) {
                int row = k * WIDTH;
                h = 31 * h + cells[row + WHO];
                h = withLegs ? 31 * h + cells[row + LEGS] : h;
                h = 31 * h + cells[row + TICK];
                h = withSpeed ? 31 * h + cells[row + SPEED] : h;
                h = 31 * h + cells[row + FAR];
            }
            return h;
        }
    }

    /** What may be undone: the tick, and of each runner what a call may change, oldest first. */
    private static final class Past {
        private static final int MOST = 8;
        private static final int EACH = 5;
        private static final int WIDTH = 1 + MOST_RUNNERS * EACH;

        final int[] cells = new int[MOST * WIDTH];
        int size = 0;

        void push(int tick, Runner[] row) {
            if (size >= MOST) {
                System.arraycopy(cells, WIDTH, cells, 0, (MOST - 1) * WIDTH);
                size = MOST - 1;
            }
            int at = size * WIDTH;
            cells[at] = tick;
            for (int i = 0; i < MOST_RUNNERS; i++) {
                int cell = at + 1 + i * EACH;
                cells[cell] = row[i].speed;
                cells[cell + 1] = row[i].place;
                cells[cell + 2] = row[i].drops;
                cells[cell + 3] = row[i].waits;
                cells[cell + 4] = row[i].homeAt;
            }
            size++;
        }

        /** Answers the tick that was; NONE if nothing is left. */
        int pop(Runner[] row) {
            if (size <= 0) {
                return NONE;
            }
            size--;
            int at = size * WIDTH;
            for (int i = 0; i < MOST_RUNNERS; i++) {
                int cell = at + 1 + i * EACH;
                row[i].speed = cells[cell];
                row[i].place = cells[cell + 1];
                row[i].drops = cells[cell + 2];
                row[i].waits = cells[cell + 3];
                row[i].homeAt = cells[cell + 4];
            }
            return cells[at];
        }

        void copyFrom(Past other) {
            size = other.size;
            System.arraycopy(other.cells, 0, cells, 0, other.size * WIDTH);
        }
    }

    /** All that an image keeps. */
    private static final class Race {
        int length = FIRST_LENGTH;
        int tick = 0;
        int runners = 0;
        final Runner[] row = new Runner[MOST_RUNNERS];
        final Past past = new Past();
        final Rows seenRows = new Rows(5, false, true);
        final Rows noteRows = new Rows(6, true, true);
        final Rows markRows = new Rows(6, false, false);

        Race() {
            for (int i = 0; i < MOST_RUNNERS; i++) {
                row[i] = new Runner();
            }
        }

        void restart(int newLength) {
            length = newLength;
            tick = 0;
            runners = 0;
            past.size = 0;
            seenRows.size = 0;
            noteRows.size = 0;
            markRows.size = 0;
        }

        void welcome(int kind, int legs, int egg) {
            if (runners < MOST_RUNNERS) {
                row[runners].begin(kind, legs, egg);
                runners++;
                past.size = 0;
            }
        }

        void copyLine(Race other) {
            length = other.length;
            tick = other.tick;
            runners = other.runners;
            for (int i = 0; i < MOST_RUNNERS; i++) {
                row[i].copyFrom(other.row[i]);
            }
        }

        void copyFrom(Race other) {
            copyLine(other);
            past.copyFrom(other.past);
            seenRows.copyFrom(other.seenRows);
            noteRows.copyFrom(other.noteRows);
            markRows.copyFrom(other.markRows);
        }

        void goOn() {
            tick++;
            for (int i = 0; i < runners; i++) {
                row[i].step(tick, length);
            }
        }

        void keep() {
            past.push(tick, row);
        }

        boolean takeBack() {
            int then = past.pop(row);
            if (then == NONE) {
                return false;
            }
            tick = then;
            return true;
        }

        int homes() {
            int sum = 0;
            for (int i = 0; i < runners; i++) {
                sum += row[i].isHome() ? 1 : 0;
            }
            return sum;
        }

        int placesTogether() {
            int sum = 0;
            for (int i = 0; i < runners; i++) {
                sum += row[i].place;
            }
            return sum;
        }

        int dropsTogether() {
            int sum = 0;
            for (int i = 0; i < runners; i++) {
                sum += row[i].drops;
            }
            return sum;
        }

        int legsThatFit(int i) {
            int bits = 0;
            for (int l = 1; l <= MOST_LEGS; l++) {
                bits |= seenRows.fitRunner(i, row[i].kind, l) ? 1 << l : 0;
            }
            return bits;
        }

        int kindsThatFit(int i) {
            int bits = 0;
            for (int kind = 0; kind < KINDS; kind++) {
                bits |= noteRows.fitRunner(i, kind, 0) ? 1 << kind : 0;
            }
            return bits;
        }

        int eggsThatFit(int i) {
            int bits = 0;
            for (int kind = 0; kind < KINDS; kind++) {
                bits |= markRows.fitEgg(i, kind) ? 1 << kind : 0;
            }
            return bits;
        }
    }

    /** The text, and how a race is taken from it. */
    private static final class Reader {
        private static final int MOST_BYTES = 150;
        private static final int END = 0;
        private static final int WORD = 1;
        private static final int NUMBER = 2;
        private static final int STOP = 3;
        private static final int WRONG = 4;

        private final int[] bytes = new int[MOST_BYTES];
        private int length = 0;
        private int at = 0;
        private int tokenAt = 0;
        private int sort = END;
        private int value = 0;
        private int fault = NONE;

        boolean append(int c) {
            if (length >= MOST_BYTES) {
                return false;
            }
            bytes[length] = c;
            length++;
            return true;
        }

        /** Answers how many items there are, or -10 less the fault; then the race is no use. */
        int takeRace(Race into) {
            at = 0;
            fault = NONE;
            int items = 0;
            do {
                takeItem(into, items == 0);
                items++;
                skipBlanks();
            } while (fault == NONE && at < length && items < MOST_BYTES);
            return fault == NONE ? items : -10 - fault;
        }

        private void takeItem(Race into, boolean isFirst) {
            nextToken();
            if (sort != WORD || spells("race") != isFirst) {
                fault = tokenAt;
            } else if (isFirst) {
                takeLength(into);
            } else if (spells("one") && into.runners < MOST_RUNNERS) {
                takeRunner(into);
            } else if (spells("speed")) {
                takeSpeed(into);
            } else if (spells("start")) {
                takeStart(into);
            } else if (spells("go")) {
                takeTicks(into);
            } else {
                fault = tokenAt;
            }
        }

        private void takeLength(Race into) {
            int l = number(LEAST_LENGTH, MOST_LENGTH);
            if (ended()) {
                into.restart(l);
            }
        }

        private void takeRunner(Race into) {
            int kind = number(0, KINDS - 1);
            int legs = number(1, MOST_LEGS);
            int egg = number(0, KINDS - 1);
            if (ended()) {
                into.welcome(kind, legs, egg);
            }
        }

        private void takeSpeed(Race into) {
            int i = number(0, into.runners - 1);
            int s = number(0, MOST_SPEED);
            if (ended() && i >= 0 && i < into.runners) {
                into.row[i].speed = s;
            }
        }

        private void takeStart(Race into) {
            int i = number(0, into.runners - 1);
            boolean isThere = i >= 0 && i < into.runners;
            if (isThere && into.row[i].isHome()) {
                fault = tokenAt;
            }
            int x = number(0, Math.min(MOST_START, into.length - 1));
            if (ended() && isThere) {
                into.row[i].place = x;
            }
        }

        private void takeTicks(Race into) {
            int n = number(1, 99);
            if (ended()) {
                for (int k = 0; k < n; k++) {
                    into.goOn();
                }
            }
        }

        /** Behind a fault nothing more is taken, so that the first one stays. */
        private int number(int least, int most) {
            if (fault != NONE) {
                return NONE;
            }
            nextToken();
            if (sort != NUMBER || value < least || value > most) {
                fault = tokenAt;
                return NONE;
            }
            return value;
        }

        private boolean ended() {
            if (fault != NONE) {
                return false;
            }
            nextToken();
            if (sort != STOP) {
                fault = tokenAt;
            }
            return fault == NONE;
        }

        private void skipBlanks() {
            while (at < length && bytes[at] == ' ') {
                at++;
            }
        }

        private void nextToken() {
            skipBlanks();
            tokenAt = at;
            if (at >= length) {
                sort = END;
            } else if (isLetter(bytes[at])) {
                takeLetters();
            } else if (isFigure(bytes[at])) {
                takeFigures();
            } else {
                sort = bytes[at] == ';' ? STOP : WRONG;
                at++;
            }
        }

        private void takeLetters() {
            while (at < length && isLetter(bytes[at])) {
                at++;
            }
            sort = WORD;
        }

        private void takeFigures() {
            value = 0;
            while (at < length && isFigure(bytes[at])) {
                value = 10 * value + bytes[at] - '0';
                at++;
            }
            sort = at - tokenAt <= 2 ? NUMBER : WRONG;
        }

        private boolean spells(String word) {
            if (at - tokenAt != word.length()) {
                return false;
            }
            for (int k = 0; k < word.length(); k++) {
                if (bytes[tokenAt + k] != word.charAt(k)) {
                    return false;
                }
            }
            return true;
        }

        private static boolean isLetter(int c) {
            return c >= 'a' && c <= 'z';
        }

        private static boolean isFigure(int c) {
            return c >= '0' && c <= '9';
        }
    }

    /** How many of a group go as far as one another, at the most. */
    private static final class Tally {
        private final int[] counts = new int[MOST_FAR + 1];
        int most = 0;

        void restart() {
            for (int k = 0; k < counts.length; k++) {
                counts[k] = 0;
            }
            most = 0;
        }

        void see(int far) {
            if (far >= 0 && far < counts.length) {
                counts[far]++;
                most = Math.max(most, counts[far]);
            }
        }
    }

    /** What a question about stumbles holds fixed, and how its chance is counted. */
    private static final class Odds {
        private int kind;
        private int legs;
        private int egg;
        private int speed;
        private int length;
        private int lastTick;
        private int goal;
        private int tenths;

        void pose(Runner runner, int raceLength, int endTick, int x, int c) {
            kind = runner.kind;
            legs = runner.legs;
            egg = runner.egg;
            speed = runner.speed;
            length = raceLength;
            lastTick = endTick;
            goal = x;
            tenths = c;
        }

        /** Of ten to the ticks left, how many ways end at the goal or behind it. */
        private static long ways(Odds odds, int place, int waits, int left) {
            if (left <= 0 || place >= odds.length) {
                return place >= odds.goal ? tenTo(left) : 0;
            }
            if (waits > 0) {
                return 10 * ways(odds, place, waits - 1, left - 1);
            }
            int tick = odds.lastTick - left + 1;
            int far = Gait.reach(odds.kind, odds.legs, tick, odds.speed);
            long dropped = ways(odds, place, 2, left - 1);
            if (far > Egg.limit(odds.egg, tick)) {
                return 10 * dropped;
            }
            return odds.tenths * dropped + (10 - odds.tenths) * ways(odds, place + far, 0, left - 1);
        }

        static long tenTo(int n) {
            long power = 1;
            for (int k = 0; k < n; k++) {
                power *= 10;
            }
            return power;
        }

        static long commonPart(long one, long other) {
            long a = one;
            long b = other;
            for (int k = 0; k < 100 && b != 0; k++) {
                long rest = a % b;
                a = b;
                b = rest;
            }
            return a;
        }
    }

    /** Two, A and B, who each choose a speed: where each would be by it, and which pairs rest. */
    private static final class Duel {
        private static final int SPEEDS = MOST_SPEED + 1;

        private final int[] endsA = new int[SPEEDS];
        private final int[] endsB = new int[SPEEDS];
        private final int[] mostA = new int[SPEEDS];
        private final int[] mostB = new int[SPEEDS];
        private final int[] resting = new int[SPEEDS * SPEEDS];

        void put(int s, int endA, int endB) {
            if (s >= 0 && s < SPEEDS) {
                endsA[s] = endA;
                endsB[s] = endB;
            }
        }

        /** Answers how many pairs rest. */
        int weigh(int placeA, int placeB) {
            for (int s = 0; s < SPEEDS; s++) {
                mostA[s] = greatestGain(endsA, placeA, endsB[s]);
                mostB[s] = greatestGain(endsB, placeB, endsA[s]);
            }
            int size = 0;
            for (int named = 0; named < resting.length; named++) {
                int i = named / SPEEDS;
                int j = named % SPEEDS;
                if (gain(endsA[i], placeA, endsB[j]) == mostA[j] && gain(endsB[j], placeB, endsA[i]) == mostB[i]) {
                    resting[size] = named;
                    size++;
                }
            }
            return size;
        }

        int restingPair(int k) {
            return k >= 0 && k < resting.length ? resting[k] : NONE;
        }

        private static int greatestGain(int[] ends, int place, int otherEnd) {
            int most = 0;
            for (int s = 0; s < ends.length; s++) {
                most = Math.max(most, gain(ends[s], place, otherEnd));
            }
            return most;
        }

        private static int gain(int end, int place, int otherEnd) {
            return end - place + (end > otherEnd ? 3 : 0);
        }
    }
}
