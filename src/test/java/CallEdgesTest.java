/** The boundary cases that the document names for the calls: the first and last of what is looked at, none, all. */
public final class CallEdgesTest {
    private static final int NONE = EggSpoons.NONE, BAD = EggSpoons.BAD, NO = EggSpoons.NO, FULL = EggSpoons.FULL;
    private static final Check check = new Check("CallEdgesTest");

    private static void due(String call, long want, long got) {
        check.due(call, want, got);
    }

    public static void main(String[] args) {
        race();
        oneToSix();
        ticks();
        speed();
        start();
        fastAndMay();
        where();
        home();
        first();
        firstOfSix();
        order();
        best();
        bestWithinSixty();
        turn();
        turnWithinSixty();
        beats();
        beatsWithinSixty();
        close();
        seen();
        strong();
        tell();
        notes();
        is();
        look();
        marks();
        kinds();
        ask();
        forget();
        pair();
        pairOfFiveTicks();
        stumbleEdges();
        stumbleOfWhoWaitsOrIsHome();
        fractionInLowestTerms();
        races();
        status();
        count();
        digest();
        check.finish();
    }

    /** Runner 0 is plain, of legs 9, WAITS for so many ticks yet, and has this SPEED; tick 3 less waits. */
    private static EggSpoons waiting(int length, int waits, int speed, int... others) {
        EggSpoons x = Given.runners(length, 0, 9, 0);
        x.speed(0, 9);
        x.ticks(3 - waits);
        if (speed != 9) {
            x.speed(0, speed);
        }
        for (int k = 0; k + 2 < others.length; k += 3) {
            x.one(others[k], others[k + 1], others[k + 2]);
        }
        return x;
    }

    private static void race() {
        EggSpoons x = new EggSpoons();
        due("20 at first", 20, x.count(2));
        due("9", BAD, x.race(9));
        due("61", BAD, x.race(61));
        due("as it was", 20, x.count(2));
        due("10", 0, x.race(10));
        due("10", 10, x.count(2));
        for (int k = 0; k < 6; k++) {
            x.one(0, 1, 0);
        }
        due("six there were", 6, x.race(60));
        due("60", 60, x.count(2));
        due("nobody", 0, x.count(0));
        due("nobody there", BAD, x.of(0, 0));
    }

    private static void oneToSix() {
        EggSpoons x = new EggSpoons();
        for (int k = 0; k < 6; k++) {
            due("not there yet", BAD, x.home(k));
            due("one", k, x.one(k, k < 3 ? 1 : 9, 5 - k));
            due("there", k, x.of(k, 0));
        }
        due("6 is none", BAD, x.home(6));
        due("a seventh", FULL, x.one(0, 1, 0));
        due("six", 6, x.count(0));
        x.race(20);
        due("again from 0", 0, x.one(0, 1, 0));
    }

    private static void ticks() {
        EggSpoons x = Given.runners(60, 0, 1, 0);
        due("0", BAD, x.ticks(0));
        due("1", 0, x.ticks(1));
        due("tick 1", 1, x.count(3));
        due("61", BAD, x.ticks(61));
        due("60", 1, x.ticks(60));
        due("tick 61", 61, x.count(3));
        due("home at 60", 60, x.of(0, 7));
        due("two calls, two to undo", 2, x.count(9));
        due("60 ticks together", 1, x.undo());
        due("59 more", 1, x.ticks(59));
        EggSpoons nobody = new EggSpoons();
        due("nobody is home", 0, nobody.ticks(60));
        due("the ticks go by", 60, nobody.count(3));
    }

    private static void speed() {
        EggSpoons x = Given.runners(10, 0, 4, 0);
        due("0", 4, x.speed(0, 0));
        due("0 again", NO, x.speed(0, 0));
        due("9", 0, x.speed(0, 9));
        due("10", BAD, x.speed(0, 10));
        due("-1", BAD, x.speed(0, -1));
        due("4", 9, x.speed(0, 4));
        x.ticks(2);
        due("not home yet", 4, x.speed(0, 3));
        x.ticks(1);
        due("home", NO, x.speed(0, 4));
        due("as it was", 3, x.of(0, 3));
        x.undo();
        due("home no more", 3, x.speed(0, 4));
        EggSpoons waits = waiting(20, 2, 9);
        due("who waits may be told", 9, waits.speed(0, 1));
    }

    private static void start() {
        EggSpoons x = Given.runners(32, 0, 1, 0);
        due("0", BAD, x.start(0, 0));
        due("31", BAD, x.start(0, 31));
        due("1", 1, x.start(0, 1));
        due("30", 31, x.start(0, 30));
        due("to L", NO, x.start(0, 1));
        due("behind L", NO, x.start(0, 2));
        due("nobody is home by it", 0, x.count(1));
        x.ticks(1);
        due("home", NO, x.start(0, 1));
        EggSpoons waits = waiting(20, 2, 9);
        due("who waits, too", 19, waits.start(0, 19));
        due("and waits on", 2, waits.of(0, 6));
    }

    private static void fastAndMay() {
        EggSpoons x = Given.runners(10, 2, 9, 3, 3, 9, 5);
        due("FAST in tick 1", 4, x.of(0, 8));
        due("MAY in tick 1", 8, x.of(0, 9));
        x.ticks(1);
        due("MAY in tick 2", 8, x.of(0, 9));
        x.ticks(1);
        due("MAY in tick 3", 5, x.of(0, 9));
        due("no spurt in tick 3", 4, x.of(1, 8));
        x.ticks(1);
        due("both home", 2, x.count(1));
        due("spurt in tick 4, though home", 7, x.of(1, 8));
        due("MAY in tick 4, though home", 7, x.of(1, 9));
        x.ticks(5);
        due("tired not in tick 9", 4, x.of(0, 8));
        x.ticks(1);
        due("tired in tick 10", 3, x.of(0, 8));
        EggSpoons waits = waiting(20, 2, 6);
        due("FAST though waiting", 6, waits.of(0, 8));
        due("MAY though waiting", 4, waits.of(0, 9));
    }

    private static void where() {
        EggSpoons x = Given.runners(60, 0, 1, 0);
        due("behind 0", 0, x.where(0, 0));
        due("behind 1", 1, x.where(0, 1));
        due("behind 59", 59, x.where(0, 59));
        due("behind 60", 60, x.where(0, 60));
        due("behind 61", BAD, x.where(0, 61));
        due("nothing is changed", 0, x.of(0, 4));
        EggSpoons waits = waiting(60, 2, 4);
        due("waits 2", 0, waits.where(0, 2));
        due("then runs", 4, waits.where(0, 3));
    }

    private static void home() {
        due("in 60", 60, waiting(60, 0, 1).home(0));
        due("not in 61", NONE, waiting(60, 1, 1).home(0));
        due("not in 62", NONE, waiting(60, 2, 1).home(0));
        EggSpoons x = Given.runners(10, 0, 4, 0);
        x.start(0, 6);
        due("in the next tick", 1, x.home(0));
        x.ticks(1);
        due("is home", 0, x.home(0));
        x.ticks(60);
        due("is home for long", 0, x.home(0));
    }

    private static void first() {
        due("in 60", 0, waiting(60, 0, 1).first());
        due("none within 60", NONE, waiting(60, 1, 1).first());
        EggSpoons two = waiting(60, 1, 1, 0, 1, 0);
        due("61 and 60", 1, two.first());
        EggSpoons like = Given.runners(20, 0, 1, 0, 0, 4, 0, 1, 4, 0, 0, 9, 0);
        due("of like ones the least", 1, like.first());
        like.ticks(5);
        due("all who are home are left out", 0, like.first());
        like.ticks(60);
        due("all are home", NONE, like.first());
        due("nobody runs", NONE, new EggSpoons().first());
    }

    private static void firstOfSix() {
        EggSpoons six = Given.runners(20, 0, 1, 0, 0, 1, 0, 0, 1, 0, 0, 1, 0, 0, 2, 0, 0, 2, 0);
        due("one of six", 4, six.first());
        six.start(5, 2);
        due("the last, by one tick", 5, six.first());
        due("the last, by one tick", 5, six.order(0));
        due("the sixth", 3, six.order(5));
        six.race(20);
        due("they are gone", NONE, six.first());
        six.one(0, 1, 0);
        due("the new one alone", 0, six.first());
        six.speed(0, 0);
        due("who is gone is not first", NONE, six.first());
    }

    private static void order() {
        EggSpoons x = Given.runners(60, 0, 1, 0);
        x.speed(0, 0);
        x.one(0, 9, 0);
        x.speed(1, 9);
        x.ticks(2);
        x.speed(1, 1);
        due("61 is like never: by numbers", 0, x.order(0));
        due("61 is like never: by numbers", 1, x.order(1));
        x.ticks(1);
        due("60 is ahead of never", 1, x.order(0));
        due("60 is ahead of never", 0, x.order(1));
        due("not so many", NO, x.order(2));
        due("below 0", BAD, x.order(-1));
        due("nobody", NO, new EggSpoons().order(0));
        EggSpoons homes = Given.runners(10, 0, 4, 0, 0, 5, 1, 0, 4, 0, 0, 9, 3);
        homes.speed(1, 5);
        homes.speed(3, 8);
        homes.ticks(60);
        int[] ahead = {1, 3, 0, 2};
        for (int k = 0; k < 4; k++) {
            due("by the ticks when home, then by numbers", ahead[k], homes.order(k));
        }
    }

    private static void best() {
        EggSpoons x = waiting(60, 0, 0);
        x.one(0, 1, 0);
        due("in 60: the least speed", 1, x.best(1, 0));
        due("in 60", 60, x.best(1, 1));
        EggSpoons late = Given.runners(60, 2, 1, 0, 0, 4, 0);
        due("never", NONE, late.best(0, 0));
        due("never", NONE, late.best(0, 1));
        late.start(1, 30);
        late.start(1, 26);
        due("in the next tick: the least speed", 4, late.best(1, 0));
        due("in the next tick", 1, late.best(1, 1));
        late.ticks(1);
        due("home already", NONE, late.best(1, 0));
        due("home already", NONE, late.best(1, 1));
        EggSpoons quick = Given.runners(60, 0, 9, 3);
        quick.start(0, 30);
        quick.start(0, 21);
        due("9 by a goose's falls, 8 needs two ticks, as do 7, 6, 5", 5, quick.best(0, 0));
        due("two ticks", 2, quick.best(0, 1));
        EggSpoons nine = Given.runners(10, 4, 9, 1);
        nine.start(0, 5);
        due("9 is looked at, too", 9, nine.best(0, 0));
        due("9 is looked at, too", 1, nine.best(0, 1));
        EggSpoons sly = Given.runners(10, 5, 9, 4);
        due("0 is looked at, too: 2 in each odd tick", 0, sly.best(0, 0));
        due("0 is looked at, too: 2 in each odd tick", 9, sly.best(0, 1));
    }

    /** By 5 or more this one runs 2 in two ticks of five, and drops the egg in each fifth: 52 in tick 62. */
    private static void bestWithinSixty() {
        EggSpoons x = Given.runners(52, 3, 1, 4);
        x.speed(0, 5);
        due("62 is none", NONE, x.best(0, 0));
        x.ticks(1);
        due("61 is none", NONE, x.best(0, 0));
        due("61 is none", NONE, x.best(0, 1));
        x.ticks(1);
        due("60", 5, x.best(0, 0));
        due("60", 60, x.best(0, 1));
    }

    private static void turn() {
        EggSpoons x = Given.runners(30, 0, 1, 0);
        due("behind 30, when home", 30, x.turn(0, 0, 0));
        due("home behind 30", 30, x.turn(0, 0, 1));
        EggSpoons more = Given.runners(31, 0, 1, 0);
        due("behind 31 is not looked at", NONE, more.turn(0, 0, 0));
        due("behind 31 is not looked at", NONE, more.turn(0, 0, 1));
        more.speed(0, 0);
        due("behind 0", 0, more.turn(0, 1, 0));
        due("home behind 31", 31, more.turn(0, 1, 1));
        due("never", NONE, more.turn(0, 0, 0));
        due("to the one that it is", NONE, more.turn(0, 0, 1));
        EggSpoons spurt = Given.runners(17, 3, 9, 1);
        due("12 by 4, then 5 by 2 in tick 4", 3, spurt.turn(0, 2, 0));
        due("home in tick 4", 4, spurt.turn(0, 2, 1));
        EggSpoons like = Given.runners(20, 0, 4, 0);
        due("of like ones the least", 0, like.turn(0, 9, 0));
        like.ticks(5);
        due("home already", NONE, like.turn(0, 9, 0));
        due("home already", NONE, like.turn(0, 9, 1));
    }

    private static void turnWithinSixty() {
        EggSpoons x = Given.runners(60, 0, 1, 0);
        x.speed(0, 0);
        due("home behind 60", 0, x.turn(0, 9, 0));
        due("home behind 60", 60, x.turn(0, 9, 1));
        EggSpoons late = waiting(60, 1, 0);
        due("61 is none", NONE, late.turn(0, 1, 0));
        due("61 is none", NONE, late.turn(0, 1, 1));
        late.ticks(1);
        due("60", 60, late.turn(0, 1, 1));
    }

    private static void beats() {
        EggSpoons like = Given.runners(20, 0, 4, 0, 0, 4, 0);
        due("as many ticks are not fewer", 4, like.beats(0, 1));
        like.start(0, 3);
        due("one more is enough", 1, like.beats(0, 1));
        like.start(0, 1);
        due("none is needed", 0, like.beats(0, 1));
        EggSpoons x = Given.runners(45, 0, 1, 0, 0, 2, 0);
        x.start(1, 13);
        due("b in 16, a in 15 by 30", 30, x.beats(0, 1));
        x.start(1, 1);
        due("b in 16 still", 30, x.beats(0, 1));
        x.start(1, 1);
        due("b in 15: 31 would be needed", NONE, x.beats(0, 1));
        EggSpoons tape = Given.runners(10, 0, 4, 0, 0, 4, 0, 0, 1, 0);
        tape.start(1, 5);
        due("b in 2: a in 1 by 6", 6, tape.beats(0, 1));
        due("b in 2: by legs 1 from 9, just not to L", 9, tape.beats(2, 1));
        tape.start(1, 1);
        due("b in 1: none", NONE, tape.beats(0, 1));
        tape.ticks(1);
        due("b home already", NONE, tape.beats(0, 1));
        due("a home already", NONE, tape.beats(1, 0));
    }

    private static void beatsWithinSixty() {
        EggSpoons x = waiting(60, 1, 1, 0, 1, 0, 0, 1, 0);
        x.speed(1, 0);
        due("a in 61, b never: one more pace", 1, x.beats(0, 1));
        due("a in 60, b in 61", 0, x.beats(2, 0));
        due("a in 61, b in 60", 2, x.beats(0, 2));
        due("a never", NONE, x.beats(1, 0));
        x.ticks(1);
        due("a in 60, b never", 0, x.beats(0, 1));
        EggSpoons stands = Given.runners(60, 0, 1, 0, 0, 1, 0);
        stands.speed(0, 0);
        due("who stands is never home", NONE, stands.beats(0, 1));
        stands.speed(1, 0);
        due("both stand", NONE, stands.beats(0, 1));
        EggSpoons near = Given.runners(10, 0, 1, 0, 0, 1, 0);
        near.speed(0, 0);
        near.speed(1, 0);
        due("not to L, whence one would be home by standing", NONE, near.beats(0, 1));
        near.start(0, 9);
        due("from just ahead of L neither", NONE, near.beats(0, 1));
    }

    private static void close() {
        EggSpoons like = Given.runners(20, 0, 3, 0, 0, 3, 0);
        like.start(0, 2);
        like.speed(0, 0);
        like.speed(1, 0);
        due("of like ones the least", 0, like.close(0, 1, 0));
        due("2 apart", 2, like.close(0, 1, 1));
        EggSpoons sixty = Given.runners(60, 0, 1, 0, 0, 4, 0);
        sixty.start(1, 4);
        due("at 60", 60, sixty.close(0, 1, 0));
        due("none apart", 0, sixty.close(1, 0, 1));
        EggSpoons late = waiting(60, 1, 1, 0, 4, 0);
        late.start(1, 4);
        due("61 is not looked at", 60, late.close(0, 1, 0));
        due("one apart", 1, late.close(0, 1, 1));
        EggSpoons sly = Given.runners(60, 0, 2, 0, 5, 1, 0);
        sly.start(0, 1);
        due("the sly runs 3 in tick 1", 1, sly.close(0, 1, 0));
        due("the sly runs 3 in tick 1", 1, sly.close(1, 0, 0));
        EggSpoons homes = Given.runners(10, 0, 4, 0, 0, 3, 0);
        homes.ticks(60);
        due("both home", 0, homes.close(0, 1, 0));
        due("both home at 12", 0, homes.close(0, 1, 1));
    }

    private static void seen() {
        EggSpoons x = Given.runners(20, 0, 5, 0);
        due("all least", 1, x.seen(0, 0, 0, 0));
        due("all greatest", 2, x.seen(0, 99, 9, 15));
        due("a like one counts", 3, x.seen(0, 99, 9, 15));
        x.seen(0, 1, 1, 1);
        due("the fifth", 5, x.seen(0, 2, 2, 2));
        due("a sixth", FULL, x.seen(0, 2, 2, 2));
        due("5", 5, x.forget(0));
        due("as at first", 1, x.seen(0, 2, 2, 2));
    }

    private static void strong() {
        EggSpoons x = Given.runners(20, 0, 5, 0, 1, 5, 0);
        due("nothing seen: all", 9, x.strong(0, 0));
        due("nothing seen: least", 1, x.strong(0, 1));
        due("nothing seen: greatest", 9, x.strong(0, 2));
        x.seen(0, 0, 9, 9);
        due("9 alone", 1, x.strong(0, 0));
        due("9 alone", 9, x.strong(0, 1));
        due("9 alone", 9, x.strong(0, 2));
        due("the other one's are its own", 9, x.strong(1, 0));
        x.forget(0);
        x.seen(0, 0, 9, 1);
        due("1 alone", 1, x.strong(0, 0));
        due("1 alone", 1, x.strong(0, 1));
        due("1 alone", 1, x.strong(0, 2));
        x.seen(0, 0, 9, 2);
        due("none: 0", 0, x.strong(0, 0));
        due("none", NONE, x.strong(0, 1));
        due("none", NONE, x.strong(0, 2));
        x.forget(0);
        x.seen(0, 0, 9, 10);
        x.seen(1, 0, 9, 10);
        due("plain: none", 0, x.strong(0, 0));
        due("long: 9, by the kind as it is", 9, x.strong(1, 1));
    }

    private static void tell() {
        EggSpoons x = Given.runners(20, 0, 5, 0, 2, 5, 0, 4, 5, 0);
        due("all: 9 parts all", 9, x.tell(0));
        due("shy: by pairs at most", 9, x.tell(2));
        x.seen(0, 0, 9, 9);
        due("one alone: the least of all", 0, x.tell(0));
        x.seen(0, 0, 9, 8);
        due("no legs", NONE, x.tell(0));
        x.seen(1, 10, 3, 1);
        due("tired, 2 alone", 0, x.tell(1));
        x.forget(0);
        x.seen(1, 10, 9, 0);
        due("tired, 1 alone", 0, x.tell(1));
        x.forget(0);
        x.seen(1, 20, 9, 0);
        due("tired, 1 and 2: by 2 in tick 0", 2, x.tell(1));
        x.forget(0);
        x.seen(1, 80, 9, 0);
        due("tired, 1 to 8: by 8 in tick 0", 8, x.tell(1));
        x.forget(0);
        x.seen(2, 0, 9, 5);
        due("shy, 9 alone", 0, x.tell(2));
    }

    private static void notes() {
        EggSpoons x = Given.runners(20, 0, 5, 0);
        due("all least", 1, x.note(0, 1, 0, 0, 0));
        due("all greatest", 2, x.note(0, 9, 99, 9, 15));
        for (int k = 3; k <= 6; k++) {
            due("note", k, x.note(0, 1, 1, 1, 1));
        }
        due("a seventh", FULL, x.note(0, 1, 1, 1, 1));
        due("6", 6, x.forget(1));
        due("as at first", 1, x.note(0, 1, 1, 1, 1));
    }

    private static void is() {
        EggSpoons x = Given.runners(20, 5, 5, 0, 0, 1, 0);
        due("no notes: all, whatever it is", 63, x.is(0));
        x.note(0, 9, 99, 9, 15);
        due("none", 0, x.is(0));
        due("the other one's are its own", 63, x.is(1));
        x.note(1, 9, 99, 9, 13);
        due("spurt, by the legs noted", 8, x.is(1));
    }

    private static void look() {
        EggSpoons x = Given.runners(20, 0, 9, 0, 0, 2, 0, 0, 1, 0, 0, 5, 0);
        due("no notes, legs 9", 15, x.look(0));
        x.note(0, 1, 1, 0, 0);
        due("all but the sly", 31, x.is(0));
        due("legs 9: parted in tick 14 by 5", 145, x.look(0));
        x.note(1, 1, 1, 5, 1);
        due("plain, tired, shy", 21, x.is(1));
        due("legs 2: tick 20, that would part all, is not looked at", 2, x.look(1));
        x.note(2, 1, 19, 5, 1);
        due("plain, shy", 17, x.is(2));
        due("legs 1: never parted, the least of all", 0, x.look(2));
        x.note(3, 1, 19, 5, 1);
        due("legs 5: by 2", 2, x.look(3));
        x.note(3, 5, 0, 5, 3);
        due("shy alone: the least of all", 0, x.look(3));
        x.note(3, 5, 0, 5, 15);
        due("no kind", NONE, x.look(3));
    }

    private static void marks() {
        EggSpoons x = Given.runners(20, 0, 5, 0);
        due("all least", 1, x.mark(0, 0, 0));
        due("all greatest", 2, x.mark(0, 99, 15));
        for (int k = 3; k <= 6; k++) {
            due("mark", k, x.mark(0, 1, 1));
        }
        due("a seventh", FULL, x.mark(0, 1, 1));
        due("6", 6, x.forget(2));
        due("as at first", 1, x.mark(0, 1, 1));
    }

    private static void kinds() {
        EggSpoons x = Given.runners(20, 0, 5, 5, 0, 5, 0);
        due("no marks: all, whatever it is", 63, x.kinds(0));
        x.mark(0, 0, 7);
        due("china, for 4 divides 0", 32, x.kinds(0));
        due("the other one's are its own", 63, x.kinds(1));
        x.mark(0, 99, 0);
        due("none", 0, x.kinds(0));
    }

    private static void ask() {
        EggSpoons x = Given.runners(20, 0, 5, 0, 0, 5, 0, 0, 5, 0, 0, 5, 0);
        due("no marks", 0, x.ask(0));
        x.mark(0, 0, 4);
        due("hen's, duck's: in tick 1", 1, x.ask(0));
        x.mark(1, 3, 5);
        due("boiled, goose's, china: in tick 0", 0, x.ask(1));
        x.mark(2, 1, 4);
        due("hen's alone: the least of all", 0, x.ask(2));
        x.mark(3, 0, 15);
        due("no kind", NONE, x.ask(3));
    }

    private static void forget() {
        EggSpoons x = new EggSpoons();
        for (int what = 0; what <= 2; what++) {
            due("there were none", 0, x.forget(what));
        }
        due("-1", BAD, x.forget(-1));
        due("3", BAD, x.forget(3));
    }

    private static void pair() {
        EggSpoons x = Given.runners(60, 0, 4, 0, 0, 9, 0);
        due("6 times 1", 6, x.pair(0, 1, NONE));
        for (int k = 0; k < 6; k++) {
            due("rising", 44 + 10 * k, x.pair(0, 1, k));
            due("the other way", 44 + k, x.pair(1, 0, k));
        }
        due("not so many", -5, x.pair(0, 1, 6));
        due("k below NONE", -10, x.pair(0, 1, -2));
        due("least k", -10, x.pair(0, 1, Integer.MIN_VALUE));
        due("greatest k", -5, x.pair(0, 1, Integer.MAX_VALUE));
        EggSpoons homes = Given.runners(10, 0, 4, 0, 0, 4, 0);
        homes.ticks(3);
        due("both home: all rest", 100, homes.pair(0, 1, NONE));
        due("the first", 0, homes.pair(0, 1, 0));
        due("the last", 99, homes.pair(0, 1, 99));
        due("not so many", -5, homes.pair(0, 1, 100));
    }

    /** Behind 6 ticks 0 would choose 3, for by 4 one is home at 16; behind 4 ticks 1 would choose 4. */
    private static void pairOfFiveTicks() {
        EggSpoons x = Given.runners(16, 0, 9, 0, 3, 9, 1);
        due("one rests", 1, x.pair(0, 1, NONE));
        due("4 and 2", 42, x.pair(0, 1, 0));
        due("the other way", 24, x.pair(1, 0, 0));
        EggSpoons home = Given.runners(10, 0, 2, 0, 0, 2, 0);
        due("at 10 behind 5 by 2 or more", 64, home.pair(0, 1, NONE));
        due("the first", 22, home.pair(0, 1, 0));
        due("nothing is changed", 4, home.of(0, 3));
        EggSpoons sly = Given.runners(60, 5, 9, 4, 5, 9, 4);
        due("0 is looked at, too: alone it keeps a bad egg in odd ticks", 1, sly.pair(0, 1, NONE));
        due("0 and 0", 0, sly.pair(0, 1, 0));
    }

    private static void stumbled(String told, EggSpoons x, int[] call, long above, long below) {
        due(told, 1, x.stumble(call[0], call[1], call[2], call[3]));
        due(told + ": above", above, x.part(0));
        due(told + ": below", below, x.part(1));
    }

    private static void stumbleEdges() {
        EggSpoons x = Given.runners(60, 0, 4, 0, 0, 9, 0);
        x.start(0, 30);
        x.start(0, 6);
        x.speed(1, 5);
        stumbled("behind 0, where one is", x, new int[] {0, 36, 0, 10}, 1, 1);
        stumbled("behind 0, one farther", x, new int[] {0, 37, 0, 0}, 0, 1);
        stumbled("x 0 is sure", x, new int[] {0, 0, 6, 10}, 1, 1);
        stumbled("x 60 behind 6 by odds 0", x, new int[] {0, 60, 6, 0}, 1, 1);
        stumbled("x 60 behind 5 by odds 0", x, new int[] {0, 60, 5, 0}, 0, 1);
        stumbled("x 60 behind 6 by odds 1", x, new int[] {0, 60, 6, 1}, 531441, 1000000);
        stumbled("x 60 behind 6 by odds 9", x, new int[] {0, 60, 6, 9}, 1, 1000000);
        stumbled("x 60 behind 6 by odds 10", x, new int[] {0, 60, 6, 10}, 0, 1);
        stumbled("who drops it anyway", x, new int[] {1, 1, 6, 0}, 0, 1);
        stumbled("one tick", x, new int[] {0, 40, 1, 1}, 9, 10);
        stumbled("one tick, one farther", x, new int[] {0, 41, 1, 1}, 0, 1);
    }

    private static void stumbleOfWhoWaitsOrIsHome() {
        EggSpoons waits = waiting(20, 2, 4);
        stumbled("waits 2: not behind 2", waits, new int[] {0, 1, 2, 0}, 0, 1);
        stumbled("waits 2: behind 3, by one tick's odds", waits, new int[] {0, 4, 3, 3}, 7, 10);
        stumbled("waits 2: behind 6, a drop in the third waits again", waits, new int[] {0, 4, 6, 5}, 3, 4);
        EggSpoons home = Given.runners(10, 0, 4, 0);
        home.ticks(3);
        stumbled("home at 12", home, new int[] {0, 12, 6, 10}, 1, 1);
        stumbled("home at 12, not at 13", home, new int[] {0, 13, 6, 0}, 0, 1);
        EggSpoons soon = Given.runners(10, 0, 4, 0);
        soon.start(0, 9);
        stumbled("home in one tick, stays there", soon, new int[] {0, 13, 6, 5}, 3, 4);
        stumbled("no farther", soon, new int[] {0, 14, 6, 0}, 0, 1);
        EggSpoons exact = Given.runners(12, 0, 4, 0);
        stumbled("at L one is home", exact, new int[] {0, 12, 6, 0}, 1, 1);
        stumbled("and stays there", exact, new int[] {0, 13, 6, 0}, 0, 1);
    }

    private static void fractionInLowestTerms() {
        EggSpoons x = Given.runners(20, 0, 4, 0);
        due("0 by 1 at first", 0, x.part(0));
        due("0 by 1 at first", 1, x.part(1));
        stumbled("8 of 10", x, new int[] {0, 4, 1, 2}, 4, 5);
        due("refused", BAD, x.stumble(0, 61, 1, 2));
        due("refused", BAD, x.stumble(0, 4, 7, 2));
        due("refused", BAD, x.stumble(0, 4, 1, 11));
        due("as it was", 4, x.part(0));
        due("as it was", 5, x.part(1));
        due("-1", BAD, x.part(-1));
        due("2", BAD, x.part(2));
        stumbled("never", x, new int[] {0, 60, 6, 3}, 0, 1);
        stumbled("sure", x, new int[] {0, 0, 6, 3}, 1, 1);
    }

    private static void races() {
        EggSpoons x = Given.runners(10, 0, 4, 0, 0, 4, 0, 0, 4, 0, 0, 4, 0, 0, 4, 0, 0, 4, 0);
        due("n 0", 0, x.races(0, 0));
        due("greatest seed", 0, x.races(999999, 0));
        due("seed 1000000", BAD, x.races(1000000, 0));
        due("seed -1", BAD, x.races(-1, 0));
        due("n 61", BAD, x.races(0, 61));
        due("n -1", BAD, x.races(0, -1));
        x.ticks(3);
        due("all home, n 0", 6, x.races(999999, 0));
        due("all home, n 60", 6, x.races(999999, 60));
        due("tick", 3, x.count(3));
        due("speeds as they were", 4, x.of(0, 3));
        // From SEED 0, X is 12345 first: 12345 by 65536 (cut) is 0, so RUNNER 0 is told SPEED 0.
        EggSpoons one = Given.runners(10, 0, 4, 0);
        due("told 0 ahead of the first tick", 0, one.races(0, 3));
        due("as it was", 4, one.of(0, 3));
        due("nobody", 0, new EggSpoons().races(999999, 60));
    }

    private static void status() {
        EggSpoons x = new EggSpoons();
        for (int what = 0; what <= 2; what++) {
            due("0 at first", 0, x.status(what));
        }
        due("-1", -1, x.status(-1));
        due("3", -1, x.status(3));
        due("both count as BAD", 2, x.status(0));
        due("neither as NO", 0, x.status(1));
        due("neither as FULL", 0, x.status(2));
        for (int k = 0; k < 300; k++) {
            x.undo();
        }
        due("as many as there were", 300, x.status(1));
    }

    private static void count() {
        EggSpoons x = new EggSpoons();
        int[] first = {0, 0, 20, 0, 0, 0, 0, 0, 0, 0, 0};
        for (int what = 0; what <= 10; what++) {
            due("count(" + what + ") at first", first[what], x.count(what));
        }
        due("-1", BAD, x.count(-1));
        due("11", BAD, x.count(11));
    }

    private static void digest() {
        long h = 1789;
        for (long v : new long[] {0, 0, 20, 0, 0, 0, 0, 0, 0, 0, 0, 0, 1}) {
            h = 31 * h + v;
        }
        EggSpoons x = new EggSpoons();
        due("of a new object", h, x.digest());
        due("it changes nothing", h, x.digest());
        x.undo();
        due("status is not in it", h, x.digest());
        x.image(0);
        due("images are not in it", h, x.digest());
    }
}
