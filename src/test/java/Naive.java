import java.math.BigInteger;
import java.util.ArrayDeque;
import java.util.ArrayList;
import java.util.Arrays;
import java.util.HashMap;
import java.util.List;
import java.util.Map;

/**
 * The document once more, written apart from EggSpoons and in another way: values that are never
 * changed, whole races that are looked at from each tick to the next, every candidate tried out.
 */
final class Naive {
    record Run(int kind, int legs, int egg, int speed, int place, int drops, int waits, int home) {
        Run at(int newPlace, int newDrops, int newWaits, int newHome) {
            return new Run(kind, legs, egg, speed, newPlace, newDrops, newWaits, newHome);
        }

        Run told(int newSpeed) {
            return new Run(kind, legs, egg, newSpeed, place, drops, waits, home);
        }

        Run put(int newPlace) {
            return at(newPlace, drops, waits, home);
        }
    }

    record Line(int tick, List<Run> runs) {
        Line with(int i, Run run) {
            List<Run> copy = new ArrayList<>(runs);
            copy.set(i, run);
            return new Line(tick, copy);
        }
    }

    record All(int length, Line line, List<Line> past, List<int[]> seen, List<int[]> notes, List<int[]> marks) {
    }

    private static final All FRESH = new All(20, new Line(0, List.of()), List.of(), List.of(), List.of(), List.of());

    private All all = FRESH;
    private final All[] images = new All[2];
    private String text = "";
    private BigInteger above = BigInteger.ZERO;
    private BigInteger below = BigInteger.ONE;
    private final Map<Long, Integer> refused = new HashMap<>();

    long call(String name, int... v) {
        long answer = switch (name) {
            case "race" -> race(v[0]);
            case "one" -> one(v[0], v[1], v[2]);
            case "type" -> type(v[0]);
            case "clear" -> clear();
            case "read" -> read();
            case "ticks" -> ticks(v[0]);
            case "speed" -> speed(v[0], v[1]);
            case "start" -> start(v[0], v[1]);
            case "undo" -> undo();
            case "of" -> of(v[0], v[1]);
            case "where" -> there(v[0]) && in(v[1], 0, 60) ? after(run(v[0]), tick(), v[1]).place() : -2;
            case "home" -> there(v[0]) ? homeBehind(run(v[0]), tick(), 60) : -2;
            case "first" -> first();
            case "order" -> order(v[0]);
            case "best" -> best(v[0], v[1]);
            case "turn" -> turn(v[0], v[1], v[2]);
            case "beats" -> beats(v[0], v[1]);
            case "close" -> close(v[0], v[1], v[2]);
            case "seen" -> seen(v);
            case "strong" -> strong(v[0], v[1]);
            case "tell" -> there(v[0]) ? part(legs(v[0]), (l, at) -> runs(run(v[0]).kind(), l, at / 10, at % 10), 200) : -2;
            case "note" -> note(v);
            case "mark" -> mark(v);
            case "forget" -> forget(v[0]);
            case "is" -> there(v[0]) ? bits(kindsOf(v[0])) : -2;
            case "look" -> there(v[0]) ? part(kindsOf(v[0]), (k, at) -> runs(k, run(v[0]).legs(), at / 10, at % 10), 200) : -2;
            case "kinds" -> there(v[0]) ? bits(eggsOf(v[0])) : -2;
            case "ask" -> there(v[0]) ? part(eggsOf(v[0]), Naive::may, 20) : -2;
            case "pair" -> pair(v[0], v[1], v[2]);
            case "stumble" -> stumble(v[0], v[1], v[2], v[3]);
            case "races" -> races(v[0], v[1]);
            case "part" -> in(v[0], 0, 1) ? (v[0] == 0 ? above : below).longValueExact() : -2;
            case "image" -> image(v[0]);
            case "from" -> from(v[0]);
            case "status" -> in(v[0], 0, 2) ? refused.getOrDefault(-2L - v[0], 0) : -1;
            case "count" -> count(v[0]);
            case "digest" -> digest();
            default -> throw new IllegalArgumentException(name);
        };
        boolean plain = List.of("read", "digest").contains(name);
        boolean badStatus = name.equals("status") && answer == -1;
        boolean badPair = name.equals("pair") && answer == -10;
        if (badStatus || badPair) {
            refused.merge(-2L, 1, Integer::sum);
        } else if (!plain && answer <= -2 && answer >= -4) {
            refused.merge(answer, 1, Integer::sum);
        }
        return answer;
    }

    private interface Far {
        int of(int guess, int at);
    }

    private static boolean in(int v, int a, int b) {
        return a <= v && v <= b;
    }

    private int tick() {
        return all.line().tick();
    }

    private List<Run> all() {
        return all.line().runs();
    }

    private Run run(int i) {
        return all().get(i);
    }

    private boolean there(int i) {
        return in(i, 0, all().size() - 1);
    }

    static int runs(int kind, int l, int t, int s) {
        return switch (kind) {
            case 0 -> s < l ? s : l;
            case 1 -> runs(0, l, t, s) + (s > 4 ? 1 : 0);
            case 2 -> Math.max(0, runs(0, l, t, s) - t / 10);
            case 3 -> runs(1, l, t, s) + ((t + 1) % 5 == 0 ? 3 : 0);
            case 4 -> runs(0, l, t, s) - runs(0, l, t, s) / 2;
            default -> runs(2, l, t, s) + t % 2 * 2;
        };
    }

    static int may(int egg, int t) {
        return switch (egg) {
            case 0 -> 4;
            case 1 -> may(0, t) + 1;
            case 2 -> may(0, t) - t % 2;
            case 3 -> may(1, t) + (t <= 2 ? 3 : 0);
            case 4 -> may(2, t) - 1;
            default -> may(1, t) + ((t & 3) == 0 ? 2 : 0);
        };
    }

    private Run next(Run r, int t) {
        return nextIn(r, t, all.length());
    }

    private static Run nextIn(Run r, int t, int length) {
        if (r.home() >= 0) {
            return r;
        }
        if (r.waits() > 0) {
            return r.at(r.place(), r.drops(), r.waits() - 1, -1);
        }
        int far = runs(r.kind(), r.legs(), t, r.speed());
        if (far > may(r.egg(), t)) {
            return dropped(r);
        }
        return r.at(r.place() + far, r.drops(), 0, r.place() + far >= length ? t : -1);
    }

    private static Run dropped(Run r) {
        return r.at(r.place(), Math.min(99, r.drops() + 1), 2, -1);
    }

    private Run after(Run r, int tick, int n) {
        return n == 0 ? r : next(after(r, tick, n - 1), tick + n);
    }

    private int homeBehind(Run r, int tick, int within) {
        Run now = r;
        for (int k = 0; k <= within; k++) {
            if (now.home() >= 0) {
                return k;
            }
            now = next(now, tick + k + 1);
        }
        return -1;
    }

    private static Line nextLine(Line line, int length) {
        List<Run> runs = new ArrayList<>();
        for (Run r : line.runs()) {
            runs.add(nextIn(r, line.tick() + 1, length));
        }
        return new Line(line.tick() + 1, runs);
    }

    private static int homes(Line line) {
        return (int) line.runs().stream().filter(r -> r.home() >= 0).count();
    }

    private void to(Line line) {
        List<Line> past = new ArrayList<>(all.past());
        past.add(all.line());
        if (past.size() > 8) {
            past.remove(0);
        }
        all = new All(all.length(), line, past, all.seen(), all.notes(), all.marks());
    }

    private int race(int l) {
        if (!in(l, 10, 60)) {
            return -2;
        }
        int n = all().size();
        all = new All(l, new Line(0, List.of()), List.of(), List.of(), List.of(), List.of());
        return n;
    }

    private int one(int kind, int legs, int egg) {
        if (!in(kind, 0, 5) || !in(legs, 1, 9) || !in(egg, 0, 5)) {
            return -2;
        }
        if (all().size() == 6) {
            return -4;
        }
        List<Run> runs = new ArrayList<>(all());
        runs.add(new Run(kind, legs, egg, 4, 0, 0, 0, -1));
        all = new All(all.length(), new Line(tick(), runs), List.of(), all.seen(), all.notes(), all.marks());
        return runs.size() - 1;
    }

    private int type(int c) {
        if (!in(c, 0, 127)) {
            return -2;
        }
        if (text.length() == 150) {
            return -4;
        }
        text += (char) c;
        return text.length();
    }

    private int clear() {
        int n = text.length();
        text = "";
        return n;
    }

    private static final java.util.regex.Pattern TOKEN = java.util.regex.Pattern.compile("[a-z]+|[0-9]+|.", java.util.regex.Pattern.DOTALL);

    /** Tokens with their places first; then each is looked at by what the item so far is. */
    private int read() {
        List<String> tokens = new ArrayList<>();
        List<Integer> places = new ArrayList<>();
        java.util.regex.Matcher m = TOKEN.matcher(text);
        while (m.find()) {
            if (!m.group().equals(" ")) {
                tokens.add(m.group());
                places.add(m.start());
            }
        }
        places.add(text.length());
        int length = 0;
        Line line = new Line(0, List.of());
        List<String> item = new ArrayList<>();
        int items = 0;
        for (int k = 0; k < tokens.size(); k++) {
            String token = tokens.get(k);
            if (!stands(item, token, length, line)) {
                return -10 - places.get(k);
            }
            item.add(token);
            if (!token.equals(";")) {
                continue;
            }
            int[] n = item.subList(1, item.size() - 1).stream().mapToInt(Integer::parseInt).toArray();
            switch (item.get(0)) {
                case "race" -> length = n[0];
                case "one" -> {
                    List<Run> runs = new ArrayList<>(line.runs());
                    runs.add(new Run(n[0], n[1], n[2], 4, 0, 0, 0, -1));
                    line = new Line(line.tick(), runs);
                }
                case "speed" -> line = line.with(n[0], line.runs().get(n[0]).told(n[1]));
                case "start" -> line = line.with(n[0], line.runs().get(n[0]).put(n[1]));
                default -> {
                    for (int t = 0; t < n[0]; t++) {
                        line = nextLine(line, length);
                    }
                }
            }
            item.clear();
            items++;
        }
        if (items == 0 || !item.isEmpty()) {
            return -10 - text.length();
        }
        all = new All(length, line, List.of(), List.of(), List.of(), List.of());
        return items;
    }

    private static boolean stands(List<String> item, String token, int length, Line line) {
        int here = line.runs().size();
        if (item.isEmpty()) {
            return switch (token) {
                case "race" -> length == 0;
                case "one" -> length > 0 && here < 6;
                case "speed", "start", "go" -> length > 0;
                default -> false;
            };
        }
        String word = item.get(0);
        int size = switch (word) {
            case "one" -> 3;
            case "speed", "start" -> 2;
            default -> 1;
        };
        if (item.size() == size + 1) {
            return token.equals(";");
        }
        if (!token.matches("[0-9]{1,2}")) {
            return false;
        }
        int v = Integer.parseInt(token);
        return switch (word + item.size()) {
            case "race1" -> in(v, 10, 60);
            case "one1", "one3" -> in(v, 0, 5);
            case "one2" -> in(v, 1, 9);
            case "speed1" -> v < here;
            case "speed2" -> v <= 9;
            case "start1" -> v < here && line.runs().get(v).home() < 0;
            case "start2" -> v <= 30 && v < length;
            default -> v >= 1;
        };
    }

    private int ticks(int n) {
        if (!in(n, 1, 60)) {
            return -2;
        }
        Line line = all.line();
        for (int k = 0; k < n && line.tick() < 9999; k++) {
            line = nextLine(line, all.length());
        }
        if (line.tick() > tick()) {
            to(line);
        }
        return homes(line);
    }

    private int speed(int i, int s) {
        if (!there(i) || !in(s, 0, 9)) {
            return -2;
        }
        Run r = run(i);
        if (r.speed() == s || r.home() >= 0) {
            return -3;
        }
        to(all.line().with(i, r.told(s)));
        return r.speed();
    }

    private int start(int i, int x) {
        if (!there(i) || !in(x, 1, 30)) {
            return -2;
        }
        Run r = run(i);
        if (r.home() >= 0 || r.place() + x >= all.length()) {
            return -3;
        }
        to(all.line().with(i, r.put(r.place() + x)));
        return r.place() + x;
    }

    private int undo() {
        int n = all.past().size();
        if (n == 0) {
            return -3;
        }
        Line line = all.past().get(n - 1);
        all = new All(all.length(), line, all.past().subList(0, n - 1), all.seen(), all.notes(), all.marks());
        return line.tick();
    }

    private int of(int i, int what) {
        if (!there(i) || !in(what, 0, 9)) {
            return -2;
        }
        Run r = run(i);
        return new int[] {r.kind(), r.legs(), r.egg(), r.speed(), r.place(), r.drops(), r.waits(), r.home(),
            runs(r.kind(), r.legs(), tick() + 1, r.speed()), may(r.egg(), tick() + 1)}[what];
    }

    private int first() {
        for (int k = 1; k <= 60; k++) {
            for (int i = 0; i < all().size(); i++) {
                if (homeBehind(run(i), tick(), 60) == k) {
                    return i;
                }
            }
        }
        return -1;
    }

    private int order(int k) {
        if (k < 0) {
            return -2;
        }
        if (k >= all().size()) {
            return -3;
        }
        List<int[]> keys = new ArrayList<>();
        for (int i = 0; i < all().size(); i++) {
            Run r = run(i);
            int behind = homeBehind(r, tick(), 60);
            keys.add(r.home() >= 0 ? new int[] {0, r.home(), i} : behind >= 0 ? new int[] {1, behind, i} : new int[] {2, 0, i});
        }
        keys.sort(Arrays::compare);
        return keys.get(k)[2];
    }

    private int best(int i, int what) {
        if (!there(i) || !in(what, 0, 1)) {
            return -2;
        }
        for (int k = 1; k <= 60 && run(i).home() < 0; k++) {
            for (int s = 0; s <= 9; s++) {
                if (after(run(i).told(s), tick(), k).home() >= 0) {
                    return what == 0 ? s : k;
                }
            }
        }
        return -1;
    }

    private int turn(int i, int s, int what) {
        if (!there(i) || !in(s, 0, 9) || !in(what, 0, 1)) {
            return -2;
        }
        int least = 61;
        int when = -1;
        for (int k = 0; k <= 30 && run(i).home() < 0; k++) {
            Run r = run(i);
            for (int t = 1; t < least; t++) {
                r = next(t == k + 1 ? r.told(s) : r, tick() + t);
                if (r.home() >= 0) {
                    least = t;
                    when = k;
                }
            }
        }
        return when < 0 || what == 0 ? when : least;
    }

    private int beats(int a, int b) {
        if (!there(a) || !there(b) || a == b) {
            return -2;
        }
        if (run(a).home() >= 0 || run(b).home() >= 0) {
            return -1;
        }
        int theirs = homeBehind(run(b), tick(), 60);
        for (int x = 0; x <= 30; x++) {
            Run r = run(a).put(run(a).place() + x);
            int own = r.place() < all.length() ? homeBehind(r, tick(), 60) : -1;
            if (own >= 0 && (theirs < 0 || own < theirs)) {
                return x;
            }
        }
        return -1;
    }

    private int close(int a, int b, int what) {
        if (!there(a) || !there(b) || a == b || !in(what, 0, 1)) {
            return -2;
        }
        int[] apart = new int[61];
        for (int k = 0; k <= 60; k++) {
            apart[k] = Math.abs(after(run(a), tick(), k).place() - after(run(b), tick(), k).place());
        }
        int least = Arrays.stream(apart).min().getAsInt();
        for (int k = 0; k <= 60; k++) {
            if (apart[k] == least) {
                return what == 0 ? k : least;
            }
        }
        return -1;
    }

    private static List<int[]> more(List<int[]> rows, int[] row) {
        List<int[]> copy = new ArrayList<>(rows);
        copy.add(row.clone());
        return copy;
    }

    private int seen(int[] v) {
        if (!there(v[0]) || !in(v[1], 0, 99) || !in(v[2], 0, 9) || !in(v[3], 0, 15)) {
            return -2;
        }
        if (all.seen().size() == 5) {
            return -4;
        }
        all = new All(all.length(), all.line(), all.past(), more(all.seen(), v), all.notes(), all.marks());
        return all.seen().size();
    }

    private int note(int[] v) {
        if (!there(v[0]) || !in(v[1], 1, 9) || !in(v[2], 0, 99) || !in(v[3], 0, 9) || !in(v[4], 0, 15)) {
            return -2;
        }
        if (all.notes().size() == 6) {
            return -4;
        }
        all = new All(all.length(), all.line(), all.past(), all.seen(), more(all.notes(), v), all.marks());
        return all.notes().size();
    }

    private int mark(int[] v) {
        if (!there(v[0]) || !in(v[1], 0, 99) || !in(v[2], 0, 15)) {
            return -2;
        }
        if (all.marks().size() == 6) {
            return -4;
        }
        all = new All(all.length(), all.line(), all.past(), all.seen(), all.notes(), more(all.marks(), v));
        return all.marks().size();
    }

    private int forget(int what) {
        if (!in(what, 0, 2)) {
            return -2;
        }
        List<int[]> none = List.of();
        List<List<int[]>> rows = List.of(all.seen(), all.notes(), all.marks());
        all = new All(all.length(), all.line(), all.past(), what == 0 ? none : all.seen(),
                what == 1 ? none : all.notes(), what == 2 ? none : all.marks());
        return rows.get(what).size();
    }

    private List<Integer> legs(int i) {
        List<Integer> fit = new ArrayList<>();
        for (int l = 1; l <= 9; l++) {
            int guess = l;
            if (all.seen().stream().filter(v -> v[0] == i).allMatch(v -> runs(run(i).kind(), guess, v[1], v[2]) == v[3])) {
                fit.add(l);
            }
        }
        return fit;
    }

    private List<Integer> kindsOf(int i) {
        List<Integer> fit = new ArrayList<>();
        for (int k = 0; k <= 5; k++) {
            int guess = k;
            if (all.notes().stream().filter(v -> v[0] == i).allMatch(v -> runs(guess, v[1], v[2], v[3]) == v[4])) {
                fit.add(k);
            }
        }
        return fit;
    }

    private List<Integer> eggsOf(int i) {
        List<Integer> fit = new ArrayList<>();
        for (int k = 0; k <= 5; k++) {
            int guess = k;
            if (all.marks().stream().filter(v -> v[0] == i).allMatch(v -> may(guess, v[1]) == v[2])) {
                fit.add(k);
            }
        }
        return fit;
    }

    private static int bits(List<Integer> fit) {
        return fit.stream().mapToInt(k -> 1 << k).sum();
    }

    private int strong(int i, int what) {
        if (!there(i) || !in(what, 0, 2)) {
            return -2;
        }
        List<Integer> fit = legs(i);
        return what == 0 ? fit.size() : fit.isEmpty() ? -1 : fit.get(what == 1 ? 0 : fit.size() - 1);
    }

    private static int part(List<Integer> fit, Far far, int looks) {
        if (fit.isEmpty()) {
            return -1;
        }
        int[] most = new int[looks];
        for (int at = 0; at < looks; at++) {
            Map<Integer, Integer> groups = new HashMap<>();
            for (int guess : fit) {
                groups.merge(far.of(guess, at), 1, Integer::sum);
            }
            most[at] = groups.values().stream().max(Integer::compare).get();
        }
        int fewest = Arrays.stream(most).min().getAsInt();
        int at = 0;
        while (most[at] != fewest) {
            at++;
        }
        return at;
    }

    private int pair(int a, int b, int k) {
        if (!there(a) || !there(b) || a == b || k < -1) {
            return -10;
        }
        int[][] gainA = new int[10][10];
        int[][] gainB = new int[10][10];
        for (int i = 0; i < 10; i++) {
            for (int j = 0; j < 10; j++) {
                int endA = after(run(a).told(i), tick(), 5).place();
                int endB = after(run(b).told(j), tick(), 5).place();
                gainA[i][j] = endA - run(a).place() + (endA > endB ? 3 : 0);
                gainB[i][j] = endB - run(b).place() + (endB > endA ? 3 : 0);
            }
        }
        List<Integer> rest = new ArrayList<>();
        for (int i = 0; i < 10; i++) {
            for (int j = 0; j < 10; j++) {
                boolean rests = true;
                for (int other = 0; other < 10; other++) {
                    rests &= gainA[other][j] <= gainA[i][j] && gainB[i][other] <= gainB[i][j];
                }
                if (rests) {
                    rest.add(10 * i + j);
                }
            }
        }
        return k == -1 ? rest.size() : k < rest.size() ? rest.get(k) : -5;
    }

    /** Every course of the ticks, each a row of drops or none, weighed by its odds. */
    private int stumble(int i, int x, int n, int c) {
        if (!there(i) || !in(x, 0, 60) || !in(n, 0, 6) || !in(c, 0, 10)) {
            return -2;
        }
        long ways = 0;
        for (int course = 0; course < 1 << n; course++) {
            Run r = run(i);
            long weight = 1;
            for (int k = 0; k < n; k++) {
                boolean drop = (course >> k & 1) == 1;
                weight *= drop ? c : 10 - c;
                boolean free = r.home() < 0 && r.waits() == 0;
                r = drop && free ? dropped(r) : next(r, tick() + k + 1);
            }
            ways += r.place() >= x ? weight : 0;
        }
        BigInteger up = BigInteger.valueOf(ways);
        BigInteger down = BigInteger.TEN.pow(n);
        above = up.divide(up.gcd(down));
        below = down.divide(up.gcd(down));
        return 1;
    }

    private int races(int seed, int n) {
        if (!in(seed, 0, 999999) || !in(n, 0, 60)) {
            return -2;
        }
        BigInteger x = BigInteger.valueOf(seed);
        Line line = all.line();
        for (int k = 0; k < n; k++) {
            x = x.multiply(BigInteger.valueOf(1103515245)).add(BigInteger.valueOf(12345)).mod(BigInteger.ONE.shiftLeft(31));
            int i = x.shiftRight(16).mod(BigInteger.valueOf(6)).intValue();
            int s = x.shiftRight(20).mod(BigInteger.TEN).intValue();
            if (i < line.runs().size()) {
                line = line.with(i, line.runs().get(i).told(s));
            }
            line = nextLine(line, all.length());
        }
        return homes(line);
    }

    private int image(int i) {
        if (!in(i, 0, 1)) {
            return -2;
        }
        images[i] = all;
        return 1;
    }

    private int from(int i) {
        if (!in(i, 0, 1)) {
            return -2;
        }
        if (images[i] == null) {
            return -3;
        }
        all = images[i];
        return 1;
    }

    private int count(int what) {
        return switch (what) {
            case 0 -> all().size();
            case 1 -> homes(all.line());
            case 2 -> all.length();
            case 3 -> tick();
            case 4 -> all().stream().mapToInt(Run::place).sum();
            case 5 -> all().stream().mapToInt(Run::drops).sum();
            case 6 -> all.seen().size();
            case 7 -> all.notes().size();
            case 8 -> all.marks().size();
            case 9 -> all.past().size();
            case 10 -> text.length();
            default -> -2;
        };
    }

    private long digest() {
        ArrayDeque<Long> values = new ArrayDeque<>();
        for (int what = 0; what <= 10; what++) {
            values.add((long) count(what));
        }
        for (int i = 0; i < all().size(); i++) {
            for (int what = 0; what <= 7; what++) {
                values.add((long) of(i, what));
            }
        }
        for (List<int[]> rows : List.of(all.seen(), all.notes(), all.marks())) {
            for (int[] row : rows) {
                for (int v : row) {
                    values.add((long) v);
                }
            }
        }
        values.add(above.longValueExact());
        values.add(below.longValueExact());
        long h = 1789;
        for (long v : values) {
            h = 31 * h + v;
        }
        return h;
    }
}
