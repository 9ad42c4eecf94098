import java.util.ArrayList;
import java.util.Arrays;
import java.util.List;

/**
 * What is refused, and by which reason: each number of each call just outside and just inside of what is
 * told, in a new race, in an ordinary one, and in one where all is full. A refused call is made on one of
 * two objects that are alike: but for one more in STATUS they must then stay alike in all that can be asked.
 */
public final class RefusalTest {
    private static final int NONE = EggSpoons.NONE, BAD = EggSpoons.BAD, NO = EggSpoons.NO, FULL = EggSpoons.FULL;
    private static final Check check = new Check("RefusalTest");

    /** Numbers from least to most are as told; ok is one of them that goes with the other oks. */
    private record Range(int least, int most, int ok, boolean isRunner) {
        Range(int least, int most, int ok) {
            this(least, most, ok, false);
        }

        int greatest(int runners) {
            return isRunner ? runners - 1 : most;
        }

        /** Numbers that are not as told: the nearest ones, and the ones farthest off. */
        List<Integer> outside(int runners) {
            List<Integer> numbers = new ArrayList<>();
            if (least > Integer.MIN_VALUE) {
                numbers.addAll(List.of(least - 1, Integer.MIN_VALUE));
            }
            if (greatest(runners) < Integer.MAX_VALUE) {
                numbers.addAll(List.of(greatest(runners) + 1, Integer.MAX_VALUE));
            }
            return numbers;
        }
    }

    private record Call(String name, int refusal, Range... ranges) {
        int[] oks() {
            return Arrays.stream(ranges).mapToInt(Range::ok).toArray();
        }

        boolean asksRunner() {
            return Arrays.stream(ranges).anyMatch(Range::isRunner);
        }
    }

    private static final Range RUNNER = new Range(0, 5, 1, true);
    private static final Range OTHER = new Range(0, 5, 2, true);
    private static final Range SPEED = new Range(0, 9, 3);
    private static final Range KIND = new Range(0, 5, 0);
    private static final Range LEGS = new Range(1, 9, 5);
    private static final Range TICK = new Range(0, 99, 7);
    private static final Range FAR = new Range(0, 15, 2);
    private static final Range TWO = new Range(0, 1, 1);
    private static final Range THREE = new Range(0, 2, 1);
    private static final int ANY = Integer.MAX_VALUE;

    private static final List<Call> CALLS = List.of(
            new Call("race", BAD, new Range(10, 60, 30)),
            new Call("one", BAD, KIND, LEGS, KIND),
            new Call("type", BAD, new Range(0, 127, 65)),
            new Call("ticks", BAD, new Range(1, 60, 2)),
            new Call("speed", BAD, RUNNER, SPEED),
            new Call("start", BAD, RUNNER, new Range(1, 30, 1)),
            new Call("of", BAD, RUNNER, new Range(0, 9, 4)),
            new Call("where", BAD, RUNNER, new Range(0, 60, 5)),
            new Call("home", BAD, RUNNER),
            new Call("order", BAD, new Range(0, ANY, 1)),
            new Call("best", BAD, RUNNER, TWO),
            new Call("turn", BAD, RUNNER, SPEED, TWO),
            new Call("beats", BAD, RUNNER, OTHER),
            new Call("close", BAD, RUNNER, OTHER, TWO),
            new Call("seen", BAD, RUNNER, TICK, SPEED, FAR),
            new Call("strong", BAD, RUNNER, THREE),
            new Call("tell", BAD, RUNNER),
            new Call("note", BAD, RUNNER, LEGS, TICK, SPEED, FAR),
            new Call("mark", BAD, RUNNER, TICK, FAR),
            new Call("forget", BAD, THREE),
            new Call("is", BAD, RUNNER),
            new Call("look", BAD, RUNNER),
            new Call("kinds", BAD, RUNNER),
            new Call("ask", BAD, RUNNER),
            new Call("pair", -10, RUNNER, OTHER, new Range(NONE, ANY, 0)),
            new Call("stumble", BAD, RUNNER, new Range(0, 60, 4), new Range(0, 6, 3), new Range(0, 10, 3)),
            new Call("races", BAD, new Range(0, 999999, 77), new Range(0, 60, 9)),
            new Call("part", BAD, TWO),
            new Call("image", BAD, TWO),
            new Call("from", BAD, TWO),
            new Call("status", -1, THREE),
            new Call("count", BAD, new Range(0, 10, 4)));

    private enum State { NEW, ORDINARY, ALL_FULL }

    public static void main(String[] args) {
        for (State state : State.values()) {
            for (Call call : CALLS) {
                outside(state, call);
                inside(state, call);
            }
        }
        alike();
        no();
        full();
        badBeforeTheOthers();
        noRefusals();
        check.finish();
    }

    private static int runners(State state) {
        return state == State.NEW ? 0 : state == State.ORDINARY ? 4 : 6;
    }

    private static EggSpoons in(State state) {
        return switch (state) {
            case NEW -> new EggSpoons();
            case ORDINARY -> ordinary();
            default -> allFull();
        };
    }

    private static EggSpoons ordinary() {
        EggSpoons x = Given.runners(30, 0, 5, 0, 1, 6, 1, 2, 7, 2, 3, 8, 3);
        Given.text(x, "race 12;one 1 2 3;go 2;");
        x.seen(1, 3, 4, 4);
        x.note(1, 5, 9, 4, 4);
        x.mark(1, 4, 4);
        x.ticks(1);
        x.image(0);
        x.speed(0, 5);
        x.start(2, 3);
        x.stumble(0, 4, 1, 3);
        return x;
    }

    /** Six runners, of whom 0 is HOME and 3 WAITS; 150 bytes, 5 SEEN, 6 NOTES, 6 MARKS, 8 that may be undone. */
    private static EggSpoons allFull() {
        EggSpoons x = Given.runners(30, 0, 5, 0, 1, 6, 1, 2, 7, 2, 3, 9, 4, 4, 9, 3, 5, 8, 5);
        Given.text(x, "race 12;one 1 2 3;go 2;" + " ".repeat(127));
        for (int k = 0; k < 6; k++) {
            x.seen(k, 3, 4, 4);
            x.note(k, 5, 9, 4, 4);
            x.mark(k, 4, 4);
        }
        x.start(0, 29);
        x.speed(1, 2);
        x.image(0);
        x.speed(1, 4);
        x.ticks(1);
        x.start(1, 1);
        x.start(2, 1);
        x.image(1);
        for (int s = 5; s <= 9; s++) {
            x.speed(4, s);
        }
        x.stumble(4, 1, 1, 3);
        return x;
    }

    /** All that can be asked of an object but STATUS, and then all that can be undone, gone on from, read. */
    private static long[] picture(EggSpoons x) {
        List<Long> seen = new ArrayList<>();
        everything(x, seen);
        undoAll(x, seen);
        for (int i = 0; i < 2; i++) {
            seen.add((long) x.from(i));
            everything(x, seen);
            undoAll(x, seen);
        }
        seen.add((long) x.read());
        seen.add(x.digest());
        return seen.stream().mapToLong(v -> v).toArray();
    }

    private static void everything(EggSpoons x, List<Long> seen) {
        seen.add(x.digest());
        seen.add(x.part(0));
        seen.add(x.part(1));
        for (int i = 0; i < x.count(0); i++) {
            seen.add((long) x.of(i, 8));
            seen.add((long) x.of(i, 9));
        }
    }

    private static void undoAll(EggSpoons x, List<Long> seen) {
        for (int k = 0; k < 9; k++) {
            seen.add((long) x.undo());
            seen.add(x.digest());
        }
    }

    /** The call answers so and counts so (which: 0 BAD, 1 NO, 2 FULL, NONE not at all), and changes nothing. */
    private static void refused(String told, EggSpoons x, EggSpoons twin, int answer, int which, String name, int... v) {
        String call = told + ": " + name + Arrays.toString(v);
        long[] before = {twin.status(0), twin.status(1), twin.status(2)};
        check.due(call, answer, Calls.on(x, name, v));
        for (int k = 0; k < 3; k++) {
            check.due(call + " then status(" + k + ")", before[k] + (k == which ? 1 : 0), x.status(k));
        }
        check.holds(call + " changes nothing", Arrays.equals(picture(twin), picture(x)));
    }

    private static void outside(State state, Call call) {
        for (int k = 0; k < call.ranges().length; k++) {
            for (int number : call.ranges()[k].outside(runners(state))) {
                int[] v = call.oks();
                v[k] = number;
                refused(state.toString(), in(state), in(state), call.refusal(), 0, call.name(), v);
            }
        }
    }

    /** The least and the greatest number that is as told is not BAD; it may still be NO or FULL. */
    private static void inside(State state, Call call) {
        if (call.asksRunner() && state == State.NEW) {
            return;
        }
        for (int k = 0; k < call.ranges().length; k++) {
            Range range = call.ranges()[k];
            for (int number : new int[] {range.least(), range.greatest(runners(state))}) {
                int[] v = call.oks();
                v[k] = number;
                EggSpoons x = in(state);
                int bad = x.status(0);
                String told = state + ": " + call.name() + Arrays.toString(v);
                check.holds(told + " is not refused as BAD", Calls.on(x, call.name(), v) != call.refusal());
                check.due(told + " is not counted as BAD", bad, x.status(0));
            }
        }
    }

    private static void alike() {
        for (int i = 0; i < 6; i++) {
            refused("alike", allFull(), allFull(), BAD, 0, "beats", i, i);
            refused("alike", allFull(), allFull(), BAD, 0, "close", i, i, 0);
            refused("alike", allFull(), allFull(), -10, 0, "pair", i, i, NONE);
        }
    }

    private static void no() {
        refused("it is so", ordinary(), ordinary(), NO, 1, "speed", 0, 5);
        refused("one is HOME", allFull(), allFull(), NO, 1, "speed", 0, 5);
        refused("one is HOME, and it is so", allFull(), allFull(), NO, 1, "speed", 0, 4);
        refused("one is HOME", allFull(), allFull(), NO, 1, "start", 0, 1);
        refused("at L", Given.runners(10, 0, 1, 0), Given.runners(10, 0, 1, 0), NO, 1, "start", 0, 10);
        refused("behind L", Given.runners(10, 0, 1, 0), Given.runners(10, 0, 1, 0), NO, 1, "start", 0, 11);
        refused("behind L", Given.runners(10, 0, 1, 0), Given.runners(10, 0, 1, 0), NO, 1, "start", 0, 30);
        refused("none may be", new EggSpoons(), new EggSpoons(), NO, 1, "undo");
        refused("behind a runner none may be", tickThenOne(), tickThenOne(), NO, 1, "undo");
        refused("not so many", new EggSpoons(), new EggSpoons(), NO, 1, "order", 0);
        refused("not so many", ordinary(), ordinary(), NO, 1, "order", 4);
        refused("not so many", allFull(), allFull(), NO, 1, "order", 6);
        refused("not so many", allFull(), allFull(), NO, 1, "order", Integer.MAX_VALUE);
        refused("none was kept", new EggSpoons(), new EggSpoons(), NO, 1, "from", 0);
        refused("none was kept", ordinary(), ordinary(), NO, 1, "from", 1);
    }

    private static EggSpoons tickThenOne() {
        EggSpoons x = new EggSpoons();
        x.ticks(1);
        x.one(0, 1, 0);
        return x;
    }

    private static void full() {
        refused("6 runners", allFull(), allFull(), FULL, 2, "one", 0, 1, 0);
        refused("150 bytes", allFull(), allFull(), FULL, 2, "type", 59);
        refused("5 seen", allFull(), allFull(), FULL, 2, "seen", 0, 0, 0, 0);
        refused("6 notes", allFull(), allFull(), FULL, 2, "note", 0, 1, 0, 0, 0);
        refused("6 marks", allFull(), allFull(), FULL, 2, "mark", 0, 0, 0);
    }

    private static void badBeforeTheOthers() {
        refused("HOME, but", allFull(), allFull(), BAD, 0, "speed", 0, 10);
        refused("HOME, but", allFull(), allFull(), BAD, 0, "start", 0, 0);
        refused("HOME, but", allFull(), allFull(), BAD, 0, "start", 0, 31);
        refused("behind L, but", Given.runners(10, 0, 1, 0), Given.runners(10, 0, 1, 0), BAD, 0, "start", 0, 31);
        refused("nobody, but", new EggSpoons(), new EggSpoons(), BAD, 0, "order", -1);
        refused("none was kept, but", new EggSpoons(), new EggSpoons(), BAD, 0, "from", 2);
        refused("full, but", allFull(), allFull(), BAD, 0, "one", 0, 0, 0);
        refused("full, but", allFull(), allFull(), BAD, 0, "type", 128);
        refused("full, but", allFull(), allFull(), BAD, 0, "seen", 6, 0, 0, 0);
        refused("full, but", allFull(), allFull(), BAD, 0, "note", 0, 10, 0, 0, 0);
        refused("full, but", allFull(), allFull(), BAD, 0, "mark", 0, 100, 0);
    }

    /** Answers below 0 that are told neither as BAD nor as NO nor as FULL are no refusals. */
    private static void noRefusals() {
        refused("NONE", allFull(), allFull(), NONE, NONE, "home", 3);
        refused("NONE", new EggSpoons(), new EggSpoons(), NONE, NONE, "first");
        refused("NONE", allFull(), allFull(), NONE, NONE, "best", 0, 0);
        refused("NONE", allFull(), allFull(), NONE, NONE, "turn", 0, 4, 1);
        refused("NONE", allFull(), allFull(), NONE, NONE, "beats", 0, 1);
        refused("NONE", allFull(), allFull(), NONE, NONE, "beats", 1, 0);
        refused("NONE", noneFit(), noneFit(), NONE, NONE, "strong", 0, 1);
        refused("NONE", noneFit(), noneFit(), NONE, NONE, "strong", 0, 2);
        refused("NONE", noneFit(), noneFit(), NONE, NONE, "tell", 0);
        refused("NONE", noneFit(), noneFit(), NONE, NONE, "look", 0);
        refused("NONE", noneFit(), noneFit(), NONE, NONE, "ask", 0);
        refused("NONE", ordinary(), ordinary(), NONE, NONE, "of", 0, 7);
        refused("not so many", ordinary(), ordinary(), -5, NONE, "pair", 0, 1, 100);
        refused("a fault", new EggSpoons(), new EggSpoons(), -10, NONE, "read");
        refused("a fault", fault(), fault(), -18, NONE, "read");
    }

    private static EggSpoons noneFit() {
        EggSpoons x = Given.runners(20, 0, 5, 0);
        x.seen(0, 0, 0, 15);
        x.note(0, 1, 0, 0, 15);
        x.mark(0, 0, 15);
        return x;
    }

    /** A text whose first item is whole, and whose second is none. */
    private static EggSpoons fault() {
        EggSpoons x = ordinary();
        Given.text(x, "race 10;run;");
        return x;
    }
}
