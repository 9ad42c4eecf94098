/** The promises 1 to 38 one by one: ordinary inputs, the edges that the document names, wrong inputs. */
public final class PromiseTest {
    private static final int NONE = EggSpoons.NONE, BAD = EggSpoons.BAD, NO = EggSpoons.NO, FULL = EggSpoons.FULL;
    private static final Check check = new Check("PromiseTest");

    private static void due(String call, long want, long got) {
        check.due(call, want, got);
    }

    public static void main(String[] args) {
        newObject();
        race();
        one();
        typeAndClear();
        readWhole();
        readFaults();
        ticks();
        lastTick();
        speed();
        start();
        undo();
        of();
        kindsOfRunners();
        kindsOfEggs();
        where();
        home();
        first();
        order();
        best();
        turn();
        beats();
        close();
        seen();
        strong();
        tell();
        note();
        mark();
        forget();
        is();
        look();
        kinds();
        ask();
        pair();
        stumble();
        races();
        part();
        imageAndFrom();
        status();
        count();
        digest();
        check.finish();
    }

    /** Each list of answers is asked of the same call with 0, 1, 2 and so on. */
    private static void facts(String told, EggSpoons x, int i, int... want) {
        for (int what = 0; what < want.length; what++) {
            due(told + " of(" + i + ", " + what + ")", want[what], x.of(i, what));
        }
    }

    private static void counts(String told, EggSpoons x, int... want) {
        for (int what = 0; what < want.length; what++) {
            due(told + " count(" + what + ")", want[what], x.count(what));
        }
    }

    private static void newObject() {
        EggSpoons x = new EggSpoons();
        counts("1: new", x, 0, 0, 20, 0, 0, 0, 0, 0, 0, 0, 0);
        due("1: above", 0, x.part(0));
        due("1: below", 1, x.part(1));
        due("1: nobody", BAD, x.of(0, 0));
        due("1: nothing kept", NO, x.from(0));
        due("1: nothing kept", NO, x.from(1));
        due("1: nothing to undo", NO, x.undo());
    }

    private static void race() {
        EggSpoons x = Given.runners(30, 0, 5, 0, 1, 6, 1);
        Given.text(x, "go");
        x.stumble(0, 1, 1, 5);
        x.seen(0, 1, 1, 1);
        x.note(0, 1, 1, 1, 1);
        x.mark(0, 1, 1);
        x.image(1);
        x.ticks(3);
        x.speed(0, 9);
        due("2: race(9)", BAD, x.race(9));
        due("2: race(61)", BAD, x.race(61));
        due("2: race(min)", BAD, x.race(Integer.MIN_VALUE));
        counts("2: refused", x, 2, 0, 30, 3, 24, 0, 1, 1, 1, 2, 2);
        due("2: race(10)", 2, x.race(10));
        counts("2: anew", x, 0, 0, 10, 0, 0, 0, 0, 0, 0, 0, 2);
        due("2: fraction stays", 2, x.part(1));
        due("2: status stays", 3, x.status(0));
        due("2: race(60)", 0, x.race(60));
        due("2: L", 60, x.count(2));
        due("2: image stays", 1, x.from(1));
        counts("2: image", x, 2, 0, 30, 0, 0, 0, 1, 1, 1, 0, 2);
    }

    private static void one() {
        EggSpoons x = new EggSpoons();
        int[][] wrong = {{-1, 1, 0}, {6, 1, 0}, {0, 0, 0}, {0, 10, 0}, {0, 1, -1}, {0, 1, 6}};
        for (int[] w : wrong) {
            due("3: a wrong one", BAD, x.one(w[0], w[1], w[2]));
        }
        for (int i = 0; i < 6; i++) {
            due("3: one", i, x.one(i, i == 5 ? 9 : i + 1, 5 - i));
        }
        due("3: a seventh", FULL, x.one(0, 1, 0));
        due("3: a wrong seventh", BAD, x.one(6, 1, 0));
        due("3: six", 6, x.count(0));
        facts("3:", x, 2, 2, 3, 3, 4, 0, 0, 0, NONE);
        facts("3:", x, 5, 5, 9, 0, 4, 0, 0, 0, NONE);
        due("3: FULL", 1, x.status(2));
        EggSpoons late = Given.runners(20, 0, 4, 0);
        late.ticks(5);
        due("3: comes late", 1, late.one(0, 4, 0));
        due("3: at the tape", 0, late.of(1, 4));
        due("3: none may be undone", 0, late.count(9));
        EggSpoons again = Given.runners(20, 0, 9, 0);
        again.speed(0, 9);
        again.ticks(1);
        again.race(20);
        again.one(0, 2, 1);
        facts("3: as at first", again, 0, 0, 2, 1, 4, 0, 0, 0, NONE);
    }

    private static void typeAndClear() {
        EggSpoons x = new EggSpoons();
        due("4: type(-1)", BAD, x.type(-1));
        due("4: type(128)", BAD, x.type(128));
        for (int k = 1; k <= 150; k++) {
            due("4: type", k, x.type(k % 128));
        }
        due("4: 151st", FULL, x.type(0));
        due("4: wrong 151st", BAD, x.type(128));
        due("4: bytes", 150, x.count(10));
        due("5: clear", 150, x.clear());
        due("5: empty", 0, x.count(10));
        due("5: clear again", 0, x.clear());
        due("4: type(127)", 1, x.type(127));
    }

    private static void readWhole() {
        EggSpoons x = Given.runners(60, 1, 1, 1);
        x.seen(0, 1, 1, 1);
        x.note(0, 1, 1, 1, 1);
        x.mark(0, 1, 1);
        x.stumble(0, 1, 1, 5);
        x.image(0);
        x.ticks(1);
        String text = "  race 20 ;one 0 04 0;one 3 9 1;start 1 19;speed 0 2;speed 0 2;go 2;start 0 0;go01;speed 1 9; ";
        Given.text(x, text);
        due("6: read", 10, x.read());
        counts("6: read", x, 2, 1, 20, 3, 25, 0, 0, 0, 0, 0, text.length());
        facts("6:", x, 0, 0, 4, 0, 2, 2, 0, 0, NONE);
        facts("6:", x, 1, 3, 9, 1, 9, 23, 0, 0, 1);
        due("6: no undo", NO, x.undo());
        due("6: fraction stays", 2, x.part(1));
        due("6: image stays", 1, x.from(0));
        due("6: image", 60, x.count(2));
        due("6: read again", 10, x.read());
        Given.text(x, "race10;");
        due("6: no blank is needed", 1, x.read());
        counts("6: race alone", x, 0, 0, 10, 0, 0, 0, 0, 0, 0, 0, 7);
        Given.text(x, "race 31;one 0 9 0;start 0 30;");
        due("6: start 30", 3, x.read());
        due("6: start 30", 30, x.of(0, 4));
        Given.text(x, "race 10;one 0 9 0;one 0 9 0;one 0 9 0;one 0 9 0;one 0 9 0;one 5 1 5;go 99;go 99;");
        due("6: six, many ticks", 9, x.read());
        due("6: tick", 198, x.count(3));
        due("6: home", 6, x.count(1));
    }

    private static void fault(String text, int place) {
        EggSpoons x = Given.runners(33, 2, 5, 3);
        x.ticks(2);
        x.seen(0, 1, 2, 3);
        Given.text(x, text);
        long before = x.digest();
        int bad = x.status(0), no = x.status(1), full = x.status(2);
        due("6: \"" + text + "\"", -10 - place, x.read());
        due("6: all stays", before, x.digest());
        due("6: a fault is no BAD", bad, x.status(0));
        due("6: a fault is no NO", no, x.status(1));
        due("6: a fault is no FULL", full, x.status(2));
    }

    private static void readFaults() {
        fault("", 0);
        fault("   ", 3);
        fault("race 20", 7);
        fault("race 20  ", 9);
        fault("race", 4);
        fault("rac", 0);
        fault("races 20;", 0);
        fault("racez 20;", 0);
        fault("one 0 1 0;", 0);
        fault(";", 0);
        fault(" 20;", 1);
        fault("Race 20;", 0);
        fault("race 9;", 5);
        fault("race 61;", 5);
        fault("race 60;race 60;", 8);
        fault("race 020;", 5);
        fault("race 20 20;", 8);
        fault("race 20;;", 8);
        fault("race 20; go 1 ;x", 15);
        fault("race 20;go;", 10);
        fault("race 20;go 0;", 11);
        fault("race 20;go 100;", 11);
        fault("race 20;go go;", 11);
        fault("race 20;go 1", 12);
        fault("race 20;go 1one", 12);
        fault("race 20\t;", 7);
        fault("race 20;one 6 1 0;", 12);
        fault("race 20;one 0 0 0;", 14);
        fault("race 20;one 0 10 0;", 14);
        fault("race 20;one 0 1 6;", 16);
        fault("race 20;one 0 1;", 15);
        fault("race 20;one 0 1 0 0;", 18);
        fault("race 20;speed 0 4;", 14);
        fault("race 20;one 0 1 0;speed 1 4;", 24);
        fault("race 20;one 0 1 0;speed 0 10;", 26);
        fault("race 20;one 0 1 0;start 1 1;", 24);
        fault("race 20;one 0 1 0;start 0 20;", 26);
        fault("race 50;one 0 1 0;start 0 31;", 26);
        fault("race 20;one 0 4 0;go 5;start 0 3;", 29);
        fault("race 20;one 0 1 0;one 0 1 0;one 0 1 0;one 0 1 0;one 0 1 0;one 0 1 0;one", 68);
        fault("race 20;stop 1;", 8);
        fault("race 20;go 1;" + (char) 0, 13);
    }

    private static void ticks() {
        EggSpoons x = Given.runners(10, 0, 4, 0, 0, 9, 0);
        x.speed(1, 5);
        due("7: ticks(0)", BAD, x.ticks(0));
        due("7: ticks(61)", BAD, x.ticks(61));
        due("7: ticks(-1)", BAD, x.ticks(-1));
        due("7: ticks(1)", 0, x.ticks(1));
        facts("7: one runs", x, 0, 0, 4, 0, 4, 4, 0, 0, NONE);
        facts("7: one drops", x, 1, 0, 9, 0, 5, 0, 1, 2, NONE);
        due("7: ticks(1)", 0, x.ticks(1));
        due("7: waits", 1, x.of(1, 6));
        due("7: ticks(1)", 1, x.ticks(1));
        due("7: waits no more", 0, x.of(1, 6));
        facts("7: home", x, 0, 0, 4, 0, 4, 12, 0, 0, 3);
        due("7: ticks(60)", 1, x.ticks(60));
        due("7: tick", 63, x.count(3));
        due("7: stays at home", 12, x.of(0, 4));
        due("7: drops each third tick", 21, x.of(1, 5));
        due("7: one for each call", 5, x.count(9));
        for (int k = 0; k < 5; k++) {
            x.ticks(60);
        }
        due("7: 99 drops at most", 99, x.of(1, 5));
        EggSpoons exact = Given.runners(12, 0, 4, 0);
        due("7: at L one is home", 1, exact.ticks(3));
        due("7: at which tick", 3, exact.of(0, 7));
    }

    private static void lastTick() {
        EggSpoons x = Given.runners(60, 0, 1, 0);
        for (int k = 0; k < 166; k++) {
            x.ticks(60);
        }
        due("7: tick", 9960, x.count(3));
        due("7: another", 1, x.ticks(38));
        x.one(2, 9, 5);
        x.one(0, 1, 0);
        due("7: up to the last", 1, x.ticks(60));
        due("7: the last", 9999, x.count(3));
        due("7: one tick went by", 1, x.of(2, 4));
        due("7: may be undone", 1, x.count(9));
        due("7: at 9999 none", 1, x.ticks(1));
        due("7: nothing went by", 9999, x.count(3));
        due("7: nothing more to undo", 1, x.count(9));
        due("11: FAST beyond the last", 0, x.of(1, 8));
        due("11: MAY beyond the last", 7, x.of(1, 9));
        due("12: WHERE at the last", 1, x.where(2, 0));
        due("12: WHERE beyond the last", 31, x.where(2, 30));
        due("13: HOME beyond the last", 59, x.home(2));
        due("14: FIRST beyond the last", 2, x.first());
        due("15: home ones are ahead", 0, x.order(0));
        due("15: then who will be", 2, x.order(1));
        due("15: then who never is", 1, x.order(2));
        due("32: RACES beyond the last", 1, x.races(0, 0));
        due("10: undone", 9998, x.undo());
    }

    private static void speed() {
        EggSpoons x = Given.runners(10, 0, 9, 0, 0, 9, 0);
        due("8: nobody", BAD, x.speed(2, 0));
        due("8: nobody", BAD, x.speed(-1, 0));
        due("8: -1", BAD, x.speed(0, -1));
        due("8: 10", BAD, x.speed(0, 10));
        due("8: it is so", NO, x.speed(0, 4));
        due("8: speed", 4, x.speed(0, 0));
        due("8: speed", 0, x.speed(0, 9));
        due("8: told", 9, x.of(0, 3));
        due("8: the other one", 4, x.of(1, 3));
        x.ticks(3);
        due("8: home", NO, x.speed(1, 3));
        due("8: home, wrong", BAD, x.speed(1, 10));
        due("8: may be undone", 3, x.count(9));
    }

    private static void start() {
        EggSpoons x = Given.runners(40, 0, 9, 0, 0, 1, 0);
        due("9: nobody", BAD, x.start(2, 1));
        due("9: 0", BAD, x.start(0, 0));
        due("9: 31", BAD, x.start(0, 31));
        due("9: start", 30, x.start(0, 30));
        due("9: at L", NO, x.start(0, 10));
        due("9: behind L", NO, x.start(0, 30));
        due("9: below L", 39, x.start(0, 9));
        due("9: two may be undone", 2, x.count(9));
        x.ticks(1);
        due("9: home", NO, x.start(0, 1));
        due("9: other one", 2, x.start(1, 1));
    }

    private static void undo() {
        EggSpoons x = Given.runners(10, 0, 9, 0, 0, 9, 0);
        due("10: none", NO, x.undo());
        x.speed(1, 5);
        x.start(0, 1);
        x.ticks(3);
        facts("10:", x, 0, 0, 9, 0, 4, 13, 0, 0, 3);
        facts("10:", x, 1, 0, 9, 0, 5, 0, 1, 0, NONE);
        x.seen(0, 1, 1, 1);
        due("10: ticks", 0, x.undo());
        facts("10: ticks", x, 0, 0, 9, 0, 4, 1, 0, 0, NONE);
        facts("10: ticks", x, 1, 0, 9, 0, 5, 0, 0, 0, NONE);
        due("10: not home", 0, x.count(1));
        due("10: seen stays", 1, x.count(6));
        due("10: start", 0, x.undo());
        due("10: start", 0, x.of(0, 4));
        due("10: speed", 0, x.undo());
        due("10: speed", 4, x.of(1, 3));
        due("10: none left", NO, x.undo());
        EggSpoons dropped = Given.runners(60, 0, 9, 0);
        dropped.speed(0, 9);
        dropped.ticks(1);
        dropped.ticks(3);
        facts("10: dropped again", dropped, 0, 0, 9, 0, 9, 0, 2, 2, NONE);
        due("10: dropped once", 1, dropped.undo());
        facts("10: dropped once", dropped, 0, 0, 9, 0, 9, 0, 1, 2, NONE);
        due("10: not dropped", 0, dropped.undo());
        facts("10: not dropped", dropped, 0, 0, 9, 0, 9, 0, 0, 0, NONE);
        for (int k = 0; k < 10; k++) {
            x.ticks(2);
        }
        due("10: eight at most", 8, x.count(9));
        for (int k = 9; k >= 2; k--) {
            due("10: the last eight", 2 * k, x.undo());
        }
        due("10: no ninth", NO, x.undo());
        due("10: tick", 4, x.count(3));
        x.ticks(1);
        x.one(0, 1, 0);
        due("10: none behind one that comes", NO, x.undo());
        x.ticks(1);
        x.race(20);
        due("10: none behind a race", NO, x.undo());
    }

    private static void of() {
        EggSpoons x = Given.runners(20, 3, 9, 5);
        x.speed(0, 5);
        due("11: -1", BAD, x.of(0, -1));
        due("11: 10", BAD, x.of(0, 10));
        due("11: nobody", BAD, x.of(1, 0));
        due("11: nobody", BAD, x.of(-1, 0));
        facts("11: at first", x, 0, 3, 9, 5, 5, 0, 0, 0, NONE, 6, 5);
        x.ticks(1);
        facts("11: waiting", x, 0, 3, 9, 5, 5, 0, 1, 2, NONE, 6, 5);
        x.ticks(2);
        facts("11: spurt, china", x, 0, 3, 9, 5, 5, 0, 1, 0, NONE, 9, 7);
        EggSpoons home = Given.runners(10, 0, 4, 2);
        home.start(0, 9);
        home.speed(0, 3);
        home.ticks(1);
        facts("11: home", home, 0, 0, 4, 2, 3, 12, 0, 0, 1, 3, 4);
    }

    /** FAST of a kind in ticks 1 to n, the first being the next one. */
    private static void fast(int kind, int legs, int speed, int... want) {
        EggSpoons x = Given.runners(60, kind, legs, 0);
        if (speed != 4) {
            x.speed(0, speed);
        }
        for (int t = 1; t <= want.length; t++) {
            due("FAST of " + kind + " legs " + legs + " speed " + speed + " tick " + t, want[t - 1], x.of(0, 8));
            x.ticks(1);
        }
    }

    private static void kindsOfRunners() {
        fast(0, 5, 9, 5, 5, 5);
        fast(0, 5, 3, 3, 3, 3);
        fast(1, 3, 4, 3, 3, 3);
        fast(1, 3, 5, 4, 4, 4);
        fast(1, 9, 9, 10, 10, 10);
        fast(2, 3, 9, 3, 3, 3, 3, 3, 3, 3, 3, 3, 2, 2, 2, 2, 2, 2, 2, 2, 2, 2, 1, 1, 1, 1, 1, 1, 1, 1, 1, 1,
                0, 0, 0, 0, 0, 0, 0, 0, 0, 0, 0);
        fast(3, 3, 4, 3, 3, 3, 6, 3, 3, 3, 3, 6, 3);
        fast(3, 3, 5, 4, 4, 4, 7, 4, 4, 4, 4, 7, 4);
        fast(4, 9, 9, 5, 5, 5);
        fast(4, 9, 8, 4, 4, 4);
        fast(4, 9, 1, 1, 1, 1);
        fast(4, 9, 0, 0, 0, 0);
        fast(5, 1, 9, 3, 1, 3, 1, 3, 1, 3, 1, 3, 0, 2, 0, 2);
    }

    private static void may(int egg, int... want) {
        EggSpoons x = Given.runners(60, 0, 1, egg);
        for (int t = 1; t <= want.length; t++) {
            due("MAY of " + egg + " tick " + t, want[t - 1], x.of(0, 9));
            x.ticks(1);
        }
    }

    private static void kindsOfEggs() {
        may(0, 4, 4, 4, 4, 4);
        may(1, 5, 5, 5, 5, 5);
        may(2, 3, 4, 3, 4, 3);
        may(3, 8, 8, 5, 5, 5);
        may(4, 2, 3, 2, 3, 2);
        may(5, 5, 5, 5, 7, 5, 5, 5, 7, 5);
    }

    private static void where() {
        EggSpoons x = Given.runners(20, 0, 3, 0, 0, 9, 0);
        x.speed(1, 9);
        x.ticks(1);
        long before = x.digest();
        due("12: now", 3, x.where(0, 0));
        due("12: soon", 9, x.where(0, 2));
        due("12: home", 21, x.where(0, 6));
        due("12: stays home", 21, x.where(0, 60));
        due("12: never", 0, x.where(1, 60));
        due("12: -1", BAD, x.where(0, -1));
        due("12: 61", BAD, x.where(0, 61));
        due("12: nobody", BAD, x.where(2, 0));
        due("12: nothing is changed", before, x.digest());
    }

    private static void home() {
        EggSpoons x = Given.runners(60, 0, 1, 0, 0, 1, 0, 0, 9, 0);
        x.speed(1, 0);
        due("13: at 60", 60, x.home(0));
        due("13: never", NONE, x.home(1));
        due("13: soon", 15, x.home(2));
        due("13: nobody", BAD, x.home(3));
        due("13: nobody", BAD, x.home(-1));
        x.ticks(15);
        due("13: is", 0, x.home(2));
        due("13: sooner", 45, x.home(0));
        EggSpoons slow = Given.runners(60, 2, 2, 0);
        due("13: not within 60", NONE, slow.home(0));
        due("13: nothing is refused but two", 2, x.status(0));
    }

    private static void first() {
        EggSpoons x = new EggSpoons();
        due("14: nobody", NONE, x.first());
        x.one(0, 2, 0);
        x.one(0, 3, 0);
        x.one(0, 3, 0);
        due("14: the least of like ones", 1, x.first());
        x.start(2, 5);
        due("14: sooner", 2, x.first());
        x.ticks(5);
        due("14: home is not asked", 1, x.first());
        x.speed(1, 0);
        due("14: the other", 0, x.first());
        x.speed(0, 0);
        due("14: never", NONE, x.first());
        due("14: no refusal", 0, x.status(0) + x.status(1) + x.status(2));
        x.speed(0, 1);
        x.speed(1, 1);
        x.ticks(60);
        due("14: all are home", NONE, x.first());
    }

    private static void order() {
        EggSpoons x = Given.runners(20, 0, 1, 0, 0, 4, 0, 0, 4, 0, 0, 2, 0, 0, 4, 0, 0, 1, 0);
        x.speed(0, 0);
        x.start(4, 4);
        due("15: below 0", BAD, x.order(-1));
        due("15: not so many", NO, x.order(6));
        due("15: not so many", NO, x.order(Integer.MAX_VALUE));
        int[] ahead = {4, 1, 2, 3, 5, 0};
        for (int k = 0; k < 6; k++) {
            due("15: order(" + k + ")", ahead[k], x.order(k));
        }
        x.ticks(5);
        x.speed(0, 1);
        x.start(5, 14);
        x.start(0, 19);
        int[] then = {4, 1, 2, 0, 5, 3};
        for (int k = 0; k < 6; k++) {
            due("15: then order(" + k + ")", then[k], x.order(k));
        }
        x.undo();
        x.undo();
        x.undo();
        x.speed(5, 0);
        int[] last = {4, 1, 2, 3, 0, 5};
        for (int k = 0; k < 6; k++) {
            due("15: last order(" + k + ")", last[k], x.order(k));
        }
    }

    private static void best() {
        EggSpoons x = Given.runners(20, 0, 9, 0, 0, 3, 0, 2, 1, 4);
        due("16: speed", 4, x.best(0, 0));
        due("16: ticks", 5, x.best(0, 1));
        due("16: least of like ones", 3, x.best(1, 0));
        due("16: ticks", 7, x.best(1, 1));
        due("16: never", NONE, x.best(2, 0));
        due("16: never", NONE, x.best(2, 1));
        due("16: -1", BAD, x.best(0, -1));
        due("16: 2", BAD, x.best(0, 2));
        due("16: nobody", BAD, x.best(3, 0));
        x.speed(0, 9);
        x.ticks(1);
        due("16: waits first", 7, x.best(0, 1));
        x.undo();
        x.undo();
        x.ticks(5);
        due("16: home", NONE, x.best(0, 0));
        due("16: home", NONE, x.best(0, 1));
        EggSpoons last = Given.runners(60, 0, 1, 0);
        due("16: at 60", 60, last.best(0, 1));
        due("16: at 60", 1, last.best(0, 0));
    }

    private static void turn() {
        EggSpoons x = Given.runners(40, 0, 9, 3);
        due("17: goose's, quick at first", 0, x.turn(0, 5, 0));
        due("17: home", 8, x.turn(0, 5, 1));
        x.speed(0, 8);
        due("17: change behind two", 2, x.turn(0, 5, 0));
        due("17: home", 7, x.turn(0, 5, 1));
        due("17: never by 0", NONE, x.turn(0, 0, 0));
        due("17: never by 0", NONE, x.turn(0, 0, 1));
        due("17: speed -1", BAD, x.turn(0, -1, 0));
        due("17: speed 10", BAD, x.turn(0, 10, 0));
        due("17: what", BAD, x.turn(0, 0, 2));
        due("17: what", BAD, x.turn(0, 0, -1));
        due("17: nobody", BAD, x.turn(1, 0, 0));
        EggSpoons slow = Given.runners(31, 0, 1, 0);
        due("17: not behind 31", NONE, slow.turn(0, 0, 0));
        due("17: to the same", 0, slow.turn(0, 4, 0));
        due("17: to the same", 31, slow.turn(0, 4, 1));
        EggSpoons thirty = Given.runners(30, 0, 1, 0);
        due("17: behind 30, home", 30, thirty.turn(0, 0, 0));
        due("17: behind 30, home", 30, thirty.turn(0, 0, 1));
        EggSpoons sixty = Given.runners(60, 0, 1, 0);
        due("17: at 60", 60, sixty.turn(0, 1, 1));
        sixty.speed(0, 0);
        due("17: at 60", 0, sixty.turn(0, 1, 0));
        x.speed(0, 5);
        x.ticks(20);
        due("17: home already", NONE, x.turn(0, 4, 0));
        due("17: home already", NONE, x.turn(0, 4, 1));
    }

    private static void beats() {
        EggSpoons x = Given.runners(20, 0, 2, 0, 0, 4, 0, 0, 9, 0);
        x.speed(2, 9);
        due("18: ahead as it is", 0, x.beats(1, 0));
        due("18: home behind 4 by 12", 12, x.beats(0, 1));
        due("18: the other never is home", 0, x.beats(0, 2));
        due("18: never home", NONE, x.beats(2, 0));
        due("18: alike", BAD, x.beats(0, 0));
        due("18: nobody", BAD, x.beats(0, 3));
        due("18: nobody", BAD, x.beats(-1, 0));
        x.start(1, 16);
        due("18: home in the next tick can't be beaten", NONE, x.beats(0, 1));
        x.ticks(1);
        due("18: the other is home", NONE, x.beats(0, 1));
        due("18: home oneself", NONE, x.beats(1, 0));
        EggSpoons even = Given.runners(20, 0, 4, 0, 0, 4, 0);
        due("18: a like one is not beaten by 0", 4, even.beats(0, 1));
        EggSpoons far = Given.runners(60, 0, 1, 0, 0, 4, 0);
        far.start(1, 3);
        due("18: 30 is too little", NONE, far.beats(0, 1));
        EggSpoons both = Given.runners(60, 0, 9, 0, 0, 9, 0);
        both.speed(0, 9);
        both.speed(1, 9);
        due("18: neither is home within 60", NONE, both.beats(0, 1));
        EggSpoons tired = Given.runners(60, 2, 3, 0, 0, 1, 0);
        tired.speed(1, 0);
        due("18: 57 paces is all that one gets", 3, tired.beats(0, 1));
        EggSpoons most = Given.runners(31, 0, 1, 0, 0, 4, 0);
        most.speed(1, 0);
        most.start(1, 30);
        most.speed(1, 1);
        due("18: not to L", NONE, most.beats(0, 1));
        most.undo();
        due("18: the other stands", 0, most.beats(0, 1));
        EggSpoons thirty = Given.runners(45, 0, 1, 0, 0, 2, 0);
        thirty.speed(1, 3);
        thirty.start(1, 14);
        due("18: 30 is enough", 30, thirty.beats(0, 1));
    }

    private static void close() {
        EggSpoons x = Given.runners(20, 0, 4, 0, 0, 2, 0, 0, 2, 0);
        x.start(1, 7);
        due("19: when", 3, x.close(0, 1, 0));
        due("19: how far", 1, x.close(0, 1, 1));
        due("19: the other way", 3, x.close(1, 0, 0));
        due("19: the other way", 1, x.close(1, 0, 1));
        due("19: now", 0, x.close(0, 2, 0));
        due("19: now", 0, x.close(0, 2, 1));
        due("19: behind home", 10, x.close(1, 2, 0));
        due("19: behind home", 1, x.close(1, 2, 1));
        due("19: alike", BAD, x.close(0, 0, 0));
        due("19: what", BAD, x.close(0, 1, 2));
        due("19: what", BAD, x.close(0, 1, -1));
        due("19: nobody", BAD, x.close(0, 3, 0));
        due("19: nobody", BAD, x.close(3, 0, 0));
        EggSpoons sly = Given.runners(60, 5, 1, 0, 0, 2, 0);
        sly.start(1, 1);
        due("19: odd ticks first", 1, sly.close(0, 1, 0));
        due("19: odd ticks first", 0, sly.close(0, 1, 1));
        EggSpoons late = Given.runners(60, 0, 1, 0, 0, 4, 0);
        late.start(1, 4);
        due("19: at 60", 60, late.close(0, 1, 0));
        due("19: at 60", 0, late.close(0, 1, 1));
    }

    private static void seen() {
        EggSpoons x = Given.runners(20, 0, 5, 0);
        due("20: nobody", BAD, x.seen(1, 0, 0, 0));
        due("20: t", BAD, x.seen(0, -1, 0, 0));
        due("20: t", BAD, x.seen(0, 100, 0, 0));
        due("20: s", BAD, x.seen(0, 0, -1, 0));
        due("20: s", BAD, x.seen(0, 0, 10, 0));
        due("20: x", BAD, x.seen(0, 0, 0, -1));
        due("20: x", BAD, x.seen(0, 0, 0, 16));
        for (int k = 1; k <= 5; k++) {
            due("20: seen", k, x.seen(0, 99, 9, 15));
        }
        due("20: a sixth", FULL, x.seen(0, 0, 0, 0));
        due("20: a wrong sixth", BAD, x.seen(0, 0, 0, 16));
        due("20: count", 5, x.count(6));
    }

    private static void strong() {
        EggSpoons x = Given.runners(20, 0, 5, 0, 2, 5, 0);
        due("21: all", 9, x.strong(0, 0));
        due("21: least", 1, x.strong(0, 1));
        due("21: greatest", 9, x.strong(0, 2));
        x.seen(0, 3, 6, 6);
        due("21: 6 and more", 4, x.strong(0, 0));
        due("21: 6", 6, x.strong(0, 1));
        due("21: 9", 9, x.strong(0, 2));
        x.seen(0, 3, 9, 7);
        due("21: 7", 1, x.strong(0, 0));
        due("21: 7", 7, x.strong(0, 1));
        due("21: 7", 7, x.strong(0, 2));
        due("21: the other one", 9, x.strong(1, 0));
        x.seen(1, 20, 9, 3);
        due("21: tired", 5, x.strong(1, 1));
        x.seen(0, 3, 9, 8);
        due("21: none", 0, x.strong(0, 0));
        due("21: none", NONE, x.strong(0, 1));
        due("21: none", NONE, x.strong(0, 2));
        due("21: what", BAD, x.strong(0, 3));
        due("21: what", BAD, x.strong(0, -1));
        due("21: nobody", BAD, x.strong(2, 0));
    }

    private static void tell() {
        EggSpoons x = Given.runners(20, 0, 5, 0, 4, 5, 0, 2, 5, 0, 0, 5, 0);
        due("22: all", 9, x.tell(0));
        due("22: shy by two", 9, x.tell(1));
        x.seen(0, 0, 6, 6);
        due("22: 6 to 9", 9, x.tell(0));
        x.seen(2, 0, 3, 3);
        x.seen(2, 0, 4, 3);
        due("22: one alone", 0, x.tell(2));
        x.seen(3, 0, 9, 15);
        due("22: none", NONE, x.tell(3));
        due("22: nobody", BAD, x.tell(4));
        x.forget(0);
        x.seen(0, 9, 7, 1);
        due("22: one alone", 0, x.tell(0));
        x.forget(0);
        x.seen(1, 0, 3, 2);
        x.seen(1, 0, 5, 3);
        x.seen(1, 0, 6, 3);
        due("22: 5 to 9", 9, x.tell(1));
        x.forget(0);
        x.seen(1, 0, 9, 3);
        due("22: shy, 5 and 6 are never parted", 0, x.tell(1));
        x.forget(0);
        x.seen(0, 0, 8, 8);
        due("22: 8, 9", 9, x.tell(0));
    }

    private static void note() {
        EggSpoons x = Given.runners(20, 0, 5, 0);
        int[][] wrong = {{1, 1, 0, 0, 0}, {-1, 1, 0, 0, 0}, {0, 0, 0, 0, 0}, {0, 10, 0, 0, 0}, {0, 1, -1, 0, 0},
            {0, 1, 100, 0, 0}, {0, 1, 0, -1, 0}, {0, 1, 0, 10, 0}, {0, 1, 0, 0, -1}, {0, 1, 0, 0, 16}};
        for (int[] w : wrong) {
            due("23: a wrong note", BAD, x.note(w[0], w[1], w[2], w[3], w[4]));
        }
        for (int k = 1; k <= 6; k++) {
            due("23: note", k, x.note(0, 9, 99, 9, 15));
        }
        due("23: a seventh", FULL, x.note(0, 1, 0, 0, 0));
        due("23: a wrong seventh", BAD, x.note(0, 0, 0, 0, 0));
        due("23: count", 6, x.count(7));
    }

    private static void mark() {
        EggSpoons x = Given.runners(20, 0, 5, 0);
        int[][] wrong = {{1, 0, 0}, {-1, 0, 0}, {0, -1, 0}, {0, 100, 0}, {0, 0, -1}, {0, 0, 16}};
        for (int[] w : wrong) {
            due("24: a wrong mark", BAD, x.mark(w[0], w[1], w[2]));
        }
        for (int k = 1; k <= 6; k++) {
            due("24: mark", k, x.mark(0, 99, 15));
        }
        due("24: a seventh", FULL, x.mark(0, 0, 0));
        due("24: a wrong seventh", BAD, x.mark(0, 0, 16));
        due("24: count", 6, x.count(8));
    }

    private static void forget() {
        EggSpoons x = Given.runners(20, 0, 5, 0);
        x.seen(0, 0, 0, 0);
        x.note(0, 1, 0, 0, 0);
        x.note(0, 1, 0, 0, 0);
        x.mark(0, 0, 0);
        x.mark(0, 0, 0);
        x.mark(0, 0, 0);
        due("25: -1", BAD, x.forget(-1));
        due("25: 3", BAD, x.forget(3));
        due("25: seen", 1, x.forget(0));
        counts("25: seen", x, 1, 0, 20, 0, 0, 0, 0, 2, 3);
        due("25: notes", 2, x.forget(1));
        counts("25: notes", x, 1, 0, 20, 0, 0, 0, 0, 0, 3);
        due("25: marks", 3, x.forget(2));
        counts("25: marks", x, 1, 0, 20, 0, 0, 0, 0, 0, 0);
        due("25: again", 0, x.forget(2));
    }

    private static void is() {
        EggSpoons x = Given.runners(20, 0, 5, 0, 0, 5, 0);
        due("26: all", 63, x.is(0));
        x.note(0, 3, 14, 5, 4);
        due("26: long or sly", 1 << 1, x.is(0));
        due("26: the other one", 63, x.is(1));
        x.note(1, 5, 9, 4, 4);
        due("26: plain, long, tired", 1 | 2 | 4, x.is(1));
        x.note(1, 5, 19, 4, 3);
        due("26: tired", 4, x.is(1));
        x.note(1, 5, 19, 4, 4);
        due("26: none", 0, x.is(1));
        x.forget(1);
        x.note(0, 5, 9, 4, 7);
        due("26: spurt", 8, x.is(0));
        x.note(1, 5, 9, 4, 2);
        due("26: shy", 16, x.is(1));
        x.forget(1);
        x.note(0, 5, 11, 4, 5);
        due("26: sly", 32, x.is(0));
        due("26: nobody", BAD, x.is(2));
        due("26: nobody", BAD, x.is(-1));
    }

    private static void look() {
        EggSpoons x = Given.runners(20, 0, 5, 0, 0, 1, 0);
        due("27: all, legs 5", 15, x.look(0));
        x.note(0, 5, 9, 4, 4);
        due("27: plain, long, tired", 105, x.look(0));
        x.note(0, 5, 19, 4, 3);
        due("27: one alone", 0, x.look(0));
        x.note(0, 5, 19, 4, 4);
        due("27: none", NONE, x.look(0));
        due("27: nobody", BAD, x.look(2));
        x.forget(1);
        x.note(0, 5, 9, 9, 5);
        due("27: plain, tired", 101, x.look(0));
    }

    private static void kinds() {
        EggSpoons x = Given.runners(20, 0, 5, 0, 0, 5, 0);
        due("28: all", 63, x.kinds(0));
        x.mark(0, 2, 8);
        due("28: goose's", 8, x.kinds(0));
        due("28: the other one", 63, x.kinds(1));
        x.mark(1, 4, 4);
        due("28: hen's, duck's", 1 | 4, x.kinds(1));
        x.mark(1, 5, 3);
        due("28: duck's", 4, x.kinds(1));
        x.mark(0, 3, 8);
        due("28: none", 0, x.kinds(0));
        x.forget(2);
        x.mark(0, 7, 5);
        due("28: boiled, goose's, china", 2 | 8 | 32, x.kinds(0));
        x.mark(1, 7, 2);
        due("28: bad", 16, x.kinds(1));
        x.mark(0, 8, 7);
        due("28: china", 32, x.kinds(0));
        due("28: nobody", BAD, x.kinds(2));
    }

    private static void ask() {
        EggSpoons x = Given.runners(20, 0, 5, 0, 0, 5, 0);
        due("29: all", 0, x.ask(0));
        x.mark(0, 4, 4);
        due("29: hen's, duck's", 1, x.ask(0));
        x.mark(0, 5, 3);
        due("29: one alone", 0, x.ask(0));
        x.mark(0, 5, 4);
        due("29: none", NONE, x.ask(0));
        x.mark(1, 7, 5);
        due("29: boiled, goose's, china", 0, x.ask(1));
        due("29: nobody", BAD, x.ask(2));
    }

    private static void pair() {
        EggSpoons x = Given.runners(60, 0, 1, 0, 0, 1, 0);
        due("30: how many", 81, x.pair(0, 1, NONE));
        due("30: first", 11, x.pair(0, 1, 0));
        due("30: second", 12, x.pair(0, 1, 1));
        due("30: tenth", 21, x.pair(0, 1, 9));
        due("30: last", 99, x.pair(0, 1, 80));
        due("30: not so many", -5, x.pair(0, 1, 81));
        due("30: not so many", -5, x.pair(0, 1, Integer.MAX_VALUE));
        due("30: no refusal", 0, x.status(0) + x.status(1) + x.status(2));
        due("30: k", -10, x.pair(0, 1, -2));
        due("30: alike", -10, x.pair(1, 1, NONE));
        due("30: nobody", -10, x.pair(0, 2, NONE));
        due("30: nobody", -10, x.pair(-1, 0, NONE));
        due("30: counted as BAD", 4, x.status(0));
        EggSpoons quick = Given.runners(60, 0, 9, 0, 0, 9, 0);
        due("30: one", 1, quick.pair(0, 1, NONE));
        due("30: 4 and 4", 44, quick.pair(0, 1, 0));
        EggSpoons home = Given.runners(10, 0, 4, 0, 0, 4, 0);
        home.ticks(3);
        due("30: both home", 100, home.pair(0, 1, NONE));
        EggSpoons ahead = Given.runners(60, 0, 4, 0, 0, 2, 0);
        ahead.speed(0, 9);
        due("30: by neither's told speed", 48, ahead.pair(0, 1, NONE));
        due("30: legs", 42, ahead.pair(0, 1, 0));
    }

    private static void stumbled(EggSpoons x, int[] call, long above, long below) {
        String told = "31: stumble(" + call[0] + ", " + call[1] + ", " + call[2] + ", " + call[3] + ")";
        due(told, 1, x.stumble(call[0], call[1], call[2], call[3]));
        due(told + " above", above, x.part(0));
        due(told + " below", below, x.part(1));
    }

    private static void stumble() {
        EggSpoons x = Given.runners(20, 0, 4, 0, 0, 9, 0);
        x.speed(1, 9);
        long before = x.count(9);
        stumbled(x, new int[] {0, 0, 0, 5}, 1, 1);
        stumbled(x, new int[] {0, 1, 0, 5}, 0, 1);
        stumbled(x, new int[] {0, 4, 1, 3}, 7, 10);
        stumbled(x, new int[] {0, 4, 3, 3}, 7, 10);
        stumbled(x, new int[] {0, 4, 4, 3}, 91, 100);
        stumbled(x, new int[] {0, 12, 5, 5}, 1, 8);
        stumbled(x, new int[] {0, 12, 6, 5}, 5, 16);
        stumbled(x, new int[] {0, 20, 6, 2}, 1024, 3125);
        stumbled(x, new int[] {0, 4, 6, 10}, 0, 1);
        stumbled(x, new int[] {0, 20, 5, 0}, 1, 1);
        stumbled(x, new int[] {0, 60, 6, 0}, 0, 1);
        stumbled(x, new int[] {1, 1, 6, 0}, 0, 1);
        due("31: nothing else is changed", before, x.count(9));
        due("31: x", BAD, x.stumble(0, -1, 0, 0));
        due("31: x", BAD, x.stumble(0, 61, 0, 0));
        due("31: n", BAD, x.stumble(0, 0, -1, 0));
        due("31: n", BAD, x.stumble(0, 0, 7, 0));
        due("31: c", BAD, x.stumble(0, 0, 0, -1));
        due("31: c", BAD, x.stumble(0, 0, 0, 11));
        due("31: nobody", BAD, x.stumble(2, 0, 0, 0));
        due("31: refused ones leave it", 0, x.part(0));
        EggSpoons waiting = Given.runners(20, 0, 9, 0);
        waiting.speed(0, 9);
        waiting.ticks(1);
        waiting.speed(0, 4);
        stumbled(waiting, new int[] {0, 1, 2, 0}, 0, 1);
        stumbled(waiting, new int[] {0, 4, 3, 4}, 3, 5);
        EggSpoons kinds = Given.runners(60, 3, 3, 0, 0, 4, 2);
        stumbled(kinds, new int[] {0, 9, 4, 1}, 729, 1000);
        stumbled(kinds, new int[] {0, 10, 6, 0}, 0, 1);
        stumbled(kinds, new int[] {1, 4, 3, 0}, 0, 1);
        stumbled(kinds, new int[] {1, 4, 4, 3}, 7, 10);
        kinds.ticks(1);
        stumbled(kinds, new int[] {0, 9, 2, 1}, 81, 100);
        stumbled(kinds, new int[] {0, 9, 3, 1}, 81, 100);
        EggSpoons home = Given.runners(10, 0, 4, 0);
        home.ticks(3);
        stumbled(home, new int[] {0, 12, 6, 9}, 1, 1);
        stumbled(home, new int[] {0, 13, 6, 0}, 0, 1);
    }

    private static void races() {
        EggSpoons x = Given.runners(10, 0, 9, 0, 0, 9, 0);
        due("32: seed", BAD, x.races(-1, 1));
        due("32: seed", BAD, x.races(1000000, 1));
        due("32: n", BAD, x.races(0, -1));
        due("32: n", BAD, x.races(0, 61));
        long before = x.digest();
        due("32: none gone by", 0, x.races(999999, 0));
        // From SEED 0, X is 12345 (runner 0, speed 0), 1406932606, whose runner is 5, and so on.
        due("32: one stands from the first tick on", 1, x.races(0, 3));
        due("32: nothing is changed", before, x.digest());
        x.ticks(3);
        due("32: who is home counts", 2, x.races(0, 0));
        EggSpoons all = Given.runners(30, 0, 9, 0, 1, 8, 1, 2, 7, 2, 3, 6, 3, 4, 5, 4, 5, 4, 5);
        int[] ns = {0, 5, 8, 10, 12, 15, 20, 30, 60};
        int[] seeds = {0, 1, 7, 4242, 999999};
        int[][] homes = {{0, 0, 0, 0, 0, 1, 2, 4, 5}, {0, 0, 0, 0, 0, 1, 3, 5, 6}, {0, 0, 1, 1, 1, 2, 4, 4, 6},
            {0, 0, 1, 1, 1, 1, 2, 3, 5}, {0, 0, 1, 1, 1, 1, 2, 2, 5}};
        for (int k = 0; k < seeds.length; k++) {
            for (int j = 0; j < ns.length; j++) {
                due("32: races(" + seeds[k] + ", " + ns[j] + ")", homes[k][j], all.races(seeds[k], ns[j]));
            }
        }
        // Seeds by which an X falls just behind a whole number of 1048576.
        due("32: races(202, 20)", 4, all.races(202, 20));
        due("32: races(711, 20)", 3, all.races(711, 20));
        due("32: races(1260, 20)", 2, all.races(1260, 20));
        // Seeds by which an X falls just ahead of one.
        due("32: races(76, 30)", 4, all.races(76, 30));
        due("32: races(1120, 20)", 2, all.races(1120, 20));
        EggSpoons nobody = new EggSpoons();
        due("32: nobody", 0, nobody.races(5, 60));
    }

    private static void part() {
        EggSpoons x = Given.runners(20, 0, 4, 0);
        x.stumble(0, 4, 1, 2);
        due("33: above", 4, x.part(0));
        due("33: below", 5, x.part(1));
        due("33: -1", BAD, x.part(-1));
        due("33: 2", BAD, x.part(2));
        due("33: refused", 2, x.status(0));
    }

    private static void imageAndFrom() {
        EggSpoons x = Given.runners(20, 0, 4, 0);
        x.ticks(2);
        x.speed(0, 3);
        x.seen(0, 1, 2, 3);
        x.note(0, 1, 2, 3, 4);
        x.mark(0, 1, 2);
        long kept = x.digest();
        due("34: -1", BAD, x.image(-1));
        due("34: 2", BAD, x.image(2));
        due("34: image", 1, x.image(0));
        due("35: -1", BAD, x.from(-1));
        due("35: 2", BAD, x.from(2));
        due("35: none was kept", NO, x.from(1));
        x.ticks(5);
        x.undo();
        x.undo();
        x.forget(0);
        x.forget(1);
        x.forget(2);
        x.one(5, 5, 5);
        x.race(50);
        x.one(1, 1, 1);
        x.one(2, 2, 2);
        x.image(1);
        due("35: from", 1, x.from(0));
        due("35: all is as it was", kept, x.digest());
        due("35: undo speed", 2, x.undo());
        due("35: undo speed", 4, x.of(0, 3));
        due("35: undo ticks", 0, x.undo());
        due("35: no more", NO, x.undo());
        x.type(65);
        x.stumble(0, 4, 1, 5);
        x.seen(0, 9, 9, 9);
        due("35: from the other", 1, x.from(1));
        counts("35: the other", x, 2, 0, 50, 0, 0, 0, 0, 0, 0, 0, 1);
        due("35: fraction stays", 2, x.part(1));
        due("35: status stays", 4, x.status(0));
        due("35: an image stays as it was", 1, x.from(0));
        due("35: an image stays as it was", 3, x.of(0, 3));
        due("35: an image stays as it was", 1, x.count(6));
        due("35: an image stays as it was", 2, x.count(9));
    }

    private static void status() {
        EggSpoons x = new EggSpoons();
        due("36: at first", 0, x.status(0));
        due("36: at first", 0, x.status(1));
        due("36: at first", 0, x.status(2));
        due("36: another", -1, x.status(3));
        due("36: another", -1, x.status(-1));
        due("36: counts as BAD", 2, x.status(0));
        x.undo();
        due("36: NO", 1, x.status(1));
        for (int k = 0; k < 8; k++) {
            x.one(0, 1, 0);
        }
        due("36: FULL", 2, x.status(2));
        x.home(9);
        x.tell(0);
        x.pair(0, 9, 0);
        x.count(11);
        due("36: BAD", 5, x.status(0));
        x.race(20);
        due("36: stays", 5, x.status(0));
    }

    private static void count() {
        EggSpoons x = Given.runners(20, 0, 9, 0, 0, 4, 0, 0, 9, 2);
        x.speed(0, 9);
        x.start(1, 12);
        x.seen(0, 0, 0, 0);
        x.note(0, 1, 0, 0, 0);
        x.note(0, 1, 0, 0, 0);
        x.mark(0, 0, 0);
        x.mark(0, 0, 0);
        x.mark(0, 0, 0);
        x.type(65);
        x.ticks(2);
        counts("37:", x, 3, 1, 20, 2, 20, 2, 1, 2, 3, 3, 1);
        due("37: -1", BAD, x.count(-1));
        due("37: 11", BAD, x.count(11));
    }

    private static long mixed(long... values) {
        long h = 1789;
        for (long v : values) {
            h = 31 * h + v;
        }
        return h;
    }

    private static void digest() {
        EggSpoons x = new EggSpoons();
        due("38: new", mixed(0, 0, 20, 0, 0, 0, 0, 0, 0, 0, 0, 0, 1), x.digest());
        x.race(15);
        x.one(3, 7, 2);
        x.one(0, 9, 1);
        x.speed(1, 9);
        x.ticks(2);
        x.seen(1, 2, 3, 4);
        x.note(1, 2, 3, 4, 5);
        x.note(0, 9, 8, 7, 6);
        x.mark(1, 2, 3);
        x.type(65);
        x.stumble(1, 0, 1, 5);
        x.stumble(0, 4, 1, 5);
        due("38: all", mixed(2, 0, 15, 2, 0, 2, 1, 2, 1, 2, 1,
                3, 7, 2, 4, 0, 1, 1, -1,
                0, 9, 1, 9, 0, 1, 1, -1,
                1, 2, 3, 4,
                1, 2, 3, 4, 5, 0, 9, 8, 7, 6,
                1, 2, 3,
                0, 1), x.digest());
        long before = x.digest();
        x.undo();
        check.holds("38: the tick", before != x.digest());
        EggSpoons half = Given.runners(20, 0, 4, 0);
        half.stumble(0, 4, 1, 5);
        due("38: the fraction", mixed(1, 0, 20, 0, 0, 0, 0, 0, 0, 0, 0, 0, 4, 0, 4, 0, 0, 0, -1, 1, 2), half.digest());
    }
}
