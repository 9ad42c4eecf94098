/** The boundary cases that the document names in "Terms": kinds, eggs, ticks, what may be undone, images. */
public final class TermEdgesTest {
    private static final int NONE = EggSpoons.NONE, BAD = EggSpoons.BAD, NO = EggSpoons.NO, FULL = EggSpoons.FULL;
    private static final int PLAIN = 0, LONG = 1, TIRED = 2, SPURT = 3, SHY = 4, SLY = 5;
    private static final int HENS = 0, BOILED = 1, DUCKS = 2, GOOSES = 3, ROTTEN = 4, CHINA = 5;
    private static final Check check = new Check("TermEdgesTest");

    private static void due(String call, long want, long got) {
        check.due(call, want, got);
    }

    public static void main(String[] args) {
        plainAndLong();
        tired();
        spurt();
        shyAndSly();
        eggs();
        asFarAsOneMay();
        waitsTwo();
        ninetyNineDrops();
        atTheTape();
        homeDoesNothingMore();
        lastTick();
        questionsBeyondTheLastTick();
        eightMayBeUndone();
        undoBehindARunner();
        undoOfEach();
        imagesKeep();
        imagesAreKeptFrom();
        imagesKeepWhatRowsHold();
        check.finish();
    }

    /** A kind runs x, neither less nor more: a NOTE of x leaves that kind, one of another x does not. */
    private static void runs(int kind, int l, int t, int s, int x) {
        for (int far = Math.max(0, x - 4); far <= Math.min(15, x + 4); far++) {
            EggSpoons spoons = Given.runners(20, PLAIN, 1, HENS);
            spoons.note(0, l, t, s, far);
            String told = "kind " + kind + " of legs " + l + " in tick " + t + " by " + s + " runs " + far;
            due(told, far == x ? 1 : 0, spoons.is(0) >> kind & 1);
        }
    }

    private static void plainAndLong() {
        runs(PLAIN, 5, 0, 4, 4);
        runs(PLAIN, 5, 0, 5, 5);
        runs(PLAIN, 5, 0, 6, 5);
        runs(PLAIN, 1, 99, 0, 0);
        runs(PLAIN, 9, 99, 9, 9);
        runs(LONG, 9, 0, 4, 4);
        runs(LONG, 9, 0, 5, 6);
        runs(LONG, 1, 0, 4, 1);
        runs(LONG, 1, 0, 5, 2);
        runs(LONG, 9, 99, 9, 10);
        runs(LONG, 9, 99, 0, 0);
    }

    private static void tired() {
        runs(TIRED, 9, 0, 9, 9);
        runs(TIRED, 9, 9, 9, 9);
        runs(TIRED, 9, 10, 9, 8);
        runs(TIRED, 9, 19, 9, 8);
        runs(TIRED, 9, 20, 9, 7);
        runs(TIRED, 9, 89, 9, 1);
        runs(TIRED, 9, 90, 9, 0);
        runs(TIRED, 9, 99, 9, 0);
        runs(TIRED, 1, 10, 9, 0);
        runs(TIRED, 1, 20, 9, 0);
        runs(TIRED, 1, 99, 0, 0);
    }

    private static void spurt() {
        runs(SPURT, 9, 0, 4, 4);
        runs(SPURT, 9, 3, 4, 4);
        runs(SPURT, 9, 4, 4, 7);
        runs(SPURT, 9, 5, 4, 4);
        runs(SPURT, 9, 4, 5, 9);
        runs(SPURT, 9, 5, 5, 6);
        runs(SPURT, 9, 9, 0, 3);
        runs(SPURT, 9, 94, 9, 13);
        runs(SPURT, 9, 95, 9, 10);
        runs(SPURT, 9, 99, 9, 13);
    }

    private static void shyAndSly() {
        int[] halves = {0, 1, 1, 2, 2, 3, 3, 4, 4, 5};
        for (int s = 0; s <= 9; s++) {
            runs(SHY, 9, 99, s, halves[s]);
        }
        runs(SHY, 1, 0, 9, 1);
        runs(SLY, 9, 0, 9, 9);
        runs(SLY, 9, 1, 9, 11);
        runs(SLY, 9, 9, 9, 11);
        runs(SLY, 9, 10, 9, 8);
        runs(SLY, 9, 11, 9, 10);
        runs(SLY, 1, 98, 9, 0);
        runs(SLY, 1, 99, 9, 2);
    }

    /** An egg lets one run x, neither less nor more, as runs() for runners. */
    private static void mayRun(int egg, int t, int x) {
        for (int far = Math.max(0, x - 4); far <= x + 4; far++) {
            EggSpoons spoons = Given.runners(20, PLAIN, 1, HENS);
            spoons.mark(0, t, far);
            due("egg " + egg + " in tick " + t + " lets run " + far, far == x ? 1 : 0, spoons.kinds(0) >> egg & 1);
        }
    }

    private static void eggs() {
        int[] ticks = {0, 1, 2, 3, 4, 5, 96, 97, 98, 99};
        int[][] far = {
            {4, 4, 4, 4, 4, 4, 4, 4, 4, 4},
            {5, 5, 5, 5, 5, 5, 5, 5, 5, 5},
            {4, 3, 4, 3, 4, 3, 4, 3, 4, 3},
            {8, 8, 8, 5, 5, 5, 5, 5, 5, 5},
            {3, 2, 3, 2, 3, 2, 3, 2, 3, 2},
            {7, 5, 5, 5, 7, 5, 7, 5, 5, 5}};
        for (int egg = HENS; egg <= CHINA; egg++) {
            for (int k = 0; k < ticks.length; k++) {
                mayRun(egg, ticks[k], far[egg][k]);
            }
        }
    }

    /** In the first tick each egg carries one as far as one may, and falls if one would run farther by one. */
    private static void asFarAsOneMay() {
        int[] may = {4, 5, 3, 8, 2, 5};
        for (int egg = HENS; egg <= CHINA; egg++) {
            EggSpoons x = Given.runners(60, PLAIN, 9, egg, PLAIN, 9, egg);
            x.speed(0, may[egg]);
            x.speed(1, may[egg] + 1);
            x.ticks(1);
            due("egg " + egg + ": as far", may[egg], x.of(0, 4));
            due("egg " + egg + ": no drop", 0, x.of(0, 5));
            due("egg " + egg + ": does not wait", 0, x.of(0, 6));
            due("egg " + egg + ": stays", 0, x.of(1, 4));
            due("egg " + egg + ": drops", 1, x.of(1, 5));
            due("egg " + egg + ": waits", 2, x.of(1, 6));
        }
    }

    private static void waitsTwo() {
        EggSpoons x = Given.runners(60, PLAIN, 9, HENS);
        x.speed(0, 5);
        int[] waits = {2, 1, 0, 2, 1, 0, 2};
        int[] drops = {1, 1, 1, 2, 2, 2, 3};
        for (int k = 0; k < waits.length; k++) {
            x.ticks(1);
            due("waits behind tick " + (k + 1), waits[k], x.of(0, 6));
            due("drops behind tick " + (k + 1), drops[k], x.of(0, 5));
            due("stays", 0, x.of(0, 4));
        }
        x.speed(0, 4);
        x.ticks(2);
        due("no farther while waiting", 0, x.of(0, 4));
        x.ticks(1);
        due("farther then", 4, x.of(0, 4));
        due("no more drops", 3, x.of(0, 5));
    }

    private static void ninetyNineDrops() {
        EggSpoons x = Given.runners(60, PLAIN, 9, HENS);
        x.speed(0, 9);
        for (int k = 0; k < 4; k++) {
            x.ticks(60);
        }
        x.ticks(52);
        due("98 in tick 292", 98, x.of(0, 5));
        x.ticks(3);
        due("99 in tick 295", 99, x.of(0, 5));
        due("waits", 2, x.of(0, 6));
        x.ticks(3);
        due("99 at most", 99, x.of(0, 5));
        due("waits all the same", 2, x.of(0, 6));
        due("together", 99, x.count(5));
        due("undone", 295, x.undo());
        due("99", 99, x.of(0, 5));
        due("undone", 292, x.undo());
        due("98", 98, x.of(0, 5));
    }

    private static void atTheTape() {
        EggSpoons x = Given.runners(10, PLAIN, 4, HENS, PLAIN, 4, HENS, PLAIN, 4, HENS);
        x.start(0, 5);
        x.start(1, 6);
        x.start(2, 9);
        due("at L and behind it", 2, x.ticks(1));
        due("one ahead of L", 9, x.of(0, 4));
        due("is not home", NONE, x.of(0, 7));
        due("at L", 10, x.of(1, 4));
        due("is home", 1, x.of(1, 7));
        due("behind L", 13, x.of(2, 4));
        due("is home", 1, x.of(2, 7));
        EggSpoons far = Given.runners(60, PLAIN, 9, GOOSES);
        far.start(0, 30);
        far.start(0, 29);
        far.speed(0, 8);
        far.ticks(1);
        due("60 away, farthest behind it", 67, far.of(0, 4));
    }

    private static void homeDoesNothingMore() {
        EggSpoons x = Given.runners(10, SPURT, 4, HENS, PLAIN, 1, HENS);
        x.ticks(3);
        due("home", 3, x.of(0, 7));
        x.ticks(60);
        due("as it was", 12, x.of(0, 4));
        due("home at the same tick", 3, x.of(0, 7));
        due("the egg does not fall any more", 0, x.of(0, 5));
        due("does not wait", 0, x.of(0, 6));
        due("the other one goes on", 10, x.of(1, 4));
        due("both", 2, x.count(1));
    }

    private static EggSpoons atTick(int tick) {
        EggSpoons x = Given.runners(60, PLAIN, 1, HENS);
        x.speed(0, 0);
        for (int k = 0; k < tick / 60; k++) {
            x.ticks(60);
        }
        if (tick % 60 > 0) {
            x.ticks(tick % 60);
        }
        return x;
    }

    private static void lastTick() {
        EggSpoons x = atTick(9990);
        x.speed(0, 1);
        due("9 of 60 go by", 0, x.ticks(60));
        due("9999 at most", 9999, x.count(3));
        due("9 paces", 9, x.of(0, 4));
        due("one that may be undone", 8, x.count(9));
        x.start(0, 30);
        due("at 9999 none", 0, x.ticks(60));
        due("at 9999 none", 0, x.ticks(1));
        due("9999", 9999, x.count(3));
        due("nobody went on", 39, x.of(0, 4));
        due("start undone", 9999, x.undo());
        due("ticks undone", 9990, x.undo());
        due("place", 0, x.of(0, 4));
        due("up to the last, exactly", 0, x.ticks(9));
        due("9999", 9999, x.count(3));
        EggSpoons late = atTick(9998);
        late.speed(0, 1);
        late.start(0, 30);
        late.start(0, 29);
        due("home in the last tick", 1, late.ticks(2));
        due("home at 9999", 9999, late.of(0, 7));
        due("at 9999 how many are home", 1, late.ticks(5));
        due("refused at 9999 too", BAD, late.ticks(61));
    }

    /** A plain runner with a hen's egg goes alike in every tick, so answers at 9999 are those at 0. */
    private static void questionsBeyondTheLastTick() {
        EggSpoons x = atTick(9999);
        x.one(PLAIN, 2, HENS);
        x.one(PLAIN, 4, HENS);
        EggSpoons same = Given.runners(60, PLAIN, 1, HENS, PLAIN, 2, HENS, PLAIN, 4, HENS);
        same.speed(0, 0);
        due("where", same.where(1, 60), x.where(1, 60));
        due("home", 30, x.home(1));
        due("first", 2, x.first());
        due("order", 2, x.order(0));
        due("order", 1, x.order(1));
        due("best", 60, x.best(0, 1));
        due("turn", 60, x.turn(0, 9, 1));
        due("beats", 0, x.beats(2, 1));
        due("beats", NONE, x.beats(1, 2));
        due("close", 0, x.close(1, 2, 1));
        due("pair", 48, x.pair(1, 2, NONE));
        due("stumble", 1, x.stumble(2, 24, 6, 0));
        due("stumble", 1, x.part(0));
        for (int seed = 0; seed < 5; seed++) {
            due("races", same.races(seed, 60), x.races(seed, 60));
        }
        due("still at the last", 9999, x.count(3));
        EggSpoons tired = atTick(9999);
        tired.one(TIRED, 9, CHINA);
        tired.one(SPURT, 1, GOOSES);
        tired.one(SLY, 9, DUCKS);
        due("FAST in tick 10000", 0, tired.of(1, 8));
        due("MAY in tick 10000", 7, tired.of(1, 9));
        due("FAST in tick 10000", 1, tired.of(2, 8));
        due("MAY in tick 10000", 5, tired.of(2, 9));
        due("FAST in tick 10000", 0, tired.of(3, 8));
        due("MAY in tick 10000", 4, tired.of(3, 9));
        due("runs in ticks 10000 to 10004", 8, tired.where(2, 5));
        due("runs in ticks 10000 to 10003", 4, tired.where(3, 4));
    }

    private static void eightMayBeUndone() {
        EggSpoons x = Given.runners(60, PLAIN, 1, HENS);
        for (int k = 1; k <= 8; k++) {
            x.start(0, 1);
            due("may be undone", k, x.count(9));
        }
        EggSpoons ninth = Given.runners(60, PLAIN, 1, HENS);
        for (int k = 1; k <= 9; k++) {
            ninth.start(0, 1);
        }
        due("8 at most", 8, ninth.count(9));
        for (int k = 7; k >= 0; k--) {
            due("undo", 0, x.undo());
            due("place", k, x.of(0, 4));
            due("left", k, x.count(9));
            due("undo", 0, ninth.undo());
            due("place", k + 1, ninth.of(0, 4));
        }
        due("none may be", NO, x.undo());
        due("the ninth is gone", NO, ninth.undo());
        due("it stays", 1, ninth.of(0, 4));
    }

    private static void undoBehindARunner() {
        EggSpoons x = Given.runners(20, PLAIN, 1, HENS);
        x.ticks(3);
        x.speed(0, 0);
        due("a refused runner", BAD, x.one(6, 1, 0));
        due("changes nothing", 2, x.count(9));
        x.one(PLAIN, 1, HENS);
        due("behind a runner none", 0, x.count(9));
        due("behind a runner none", NO, x.undo());
        x.ticks(2);
        due("what comes later may be", 3, x.undo());
        due("a place", 3, x.of(0, 4));
        due("both stay", 2, x.count(0));
        for (int k = 2; k < 6; k++) {
            x.one(PLAIN, 1, HENS);
        }
        x.ticks(1);
        due("a seventh", FULL, x.one(PLAIN, 1, HENS));
        due("a refused seventh changes nothing", 3, x.undo());
    }

    private static void undoOfEach() {
        EggSpoons x = Given.runners(20, PLAIN, 9, HENS);
        x.ticks(1);
        due("told what it is", NO, x.speed(0, 4));
        due("too far", NO, x.start(0, 16));
        due("none", BAD, x.ticks(0));
        due("refused ones are not kept", 1, x.count(9));
        x.speed(0, 5);
        x.ticks(60);
        x.seen(0, 1, 1, 1);
        x.note(0, 1, 1, 1, 1);
        x.mark(0, 1, 1);
        due("60 ticks are one", 1, x.undo());
        due("drops", 0, x.of(0, 5));
        due("waits", 0, x.of(0, 6));
        due("speed", 5, x.of(0, 3));
        due("speed told is one", 1, x.undo());
        due("speed", 4, x.of(0, 3));
        due("seen ones are not undone", 1, x.count(6));
        due("notes are not undone", 1, x.count(7));
        due("marks are not undone", 1, x.count(8));
        due("ticks", 0, x.undo());
        due("place", 0, x.of(0, 4));
        due("none", NO, x.undo());
        EggSpoons nobody = new EggSpoons();
        nobody.ticks(1);
        due("ticks of nobody", 0, nobody.undo());
    }

    private static void imagesKeep() {
        EggSpoons x = Given.runners(20, PLAIN, 1, HENS);
        for (int k = 0; k < 9; k++) {
            x.ticks(1);
        }
        x.image(0);
        for (int k = 0; k < 8; k++) {
            x.undo();
        }
        due("from", 1, x.from(0));
        due("8 may be undone", 8, x.count(9));
        for (int k = 8; k >= 1; k--) {
            due("undo", k, x.undo());
        }
        due("no more", NO, x.undo());
        due("from again", 1, x.from(0));
        due("as it was", 9, x.of(0, 4));
        EggSpoons empty = new EggSpoons();
        due("an image of nobody", 1, empty.image(1));
        empty.race(60);
        empty.one(PLAIN, 1, HENS);
        empty.ticks(1);
        due("from it", 1, empty.from(1));
        due("nobody", 0, empty.count(0));
        due("L", 20, empty.count(2));
        due("nothing to undo", NO, empty.undo());
        due("the other was not kept", NO, empty.from(0));
    }

    private static void imagesAreKeptFrom() {
        EggSpoons x = Given.runners(40, PLAIN, 1, HENS);
        x.image(0);
        x.race(50);
        x.image(1);
        x.image(1);
        Given.text(x, "race 30;");
        x.read();
        due("a race and a reading leave images", 1, x.from(0));
        due("L", 40, x.count(2));
        due("the text stays", 8, x.count(10));
        x.stumble(0, 1, 1, 5);
        x.undo();
        due("from the other", 1, x.from(1));
        due("L", 50, x.count(2));
        due("the fraction stays", 1, x.part(0));
        due("the fraction stays", 2, x.part(1));
        due("status stays", 1, x.status(1));
        due("the later image takes the place", 1, x.image(0));
        due("from it", 1, x.from(0));
        due("L", 50, x.count(2));
        due("no image keeps an image", 1, x.from(1));
        due("images stay", 1, x.from(0));
    }

    /** Behind an image all rows are filled with others, so that no row is right by chance. */
    private static void imagesKeepWhatRowsHold() {
        EggSpoons x = Given.runners(40, PLAIN, 9, HENS, TIRED, 2, CHINA);
        x.speed(0, 5);
        x.ticks(1);
        x.start(1, 7);
        for (int k = 0; k < 4; k++) {
            x.seen(0, k, 2, 3);
            x.note(1, 4, 5, k, 7);
            x.mark(0, 8, k);
        }
        long kept = x.digest();
        x.image(0);
        x.race(50);
        for (int k = 0; k < 6; k++) {
            x.one(SLY, 3, DUCKS);
            x.seen(0, 90, 9, 15);
            x.note(0, 9, 90, 9, 15);
            x.mark(0, 90, 15);
        }
        for (int k = 0; k < 8; k++) {
            x.ticks(1);
        }
        due("from", 1, x.from(0));
        due("all is as it was", kept, x.digest());
        due("drops", 1, x.of(0, 5));
        due("waits", 2, x.of(0, 6));
        due("undo start", 1, x.undo());
        due("place", 2, x.of(1, 4));
        due("undo ticks", 0, x.undo());
        due("place", 0, x.of(1, 4));
        due("drops", 0, x.of(0, 5));
        due("undo speed", 0, x.undo());
        due("speed", 4, x.of(0, 3));
        due("no more", NO, x.undo());
    }
}
