import java.util.Arrays;
import java.util.Random;

/** Runs of at most 512 calls by fixed seeds, each call's answer held against the one of Naive. */
public final class ModelTest {
    private static final int RUNS = 800;
    private static final String[] NAMES = {"race", "one", "type", "clear", "read", "ticks", "speed", "start", "undo", "of",
        "where", "home", "first", "order", "best", "turn", "beats", "close", "seen", "strong", "tell", "note", "mark",
        "forget", "is", "look", "kinds", "ask", "pair", "stumble", "races", "part", "image", "from", "status", "count",
        "digest"};

    private final Check check;
    private final Random random;
    private final EggSpoons real = new EggSpoons();
    private final Naive naive = new Naive();
    private final int run;
    private int calls = 0;

    private ModelTest(Check check, int run) {
        this.check = check;
        this.run = run;
        this.random = new Random(run);
    }

    public static void main(String[] args) {
        Check check = new Check("ModelTest");
        for (int run = 0; run < RUNS; run++) {
            new ModelTest(check, run).play();
        }
        check.finish();
    }

    private void play() {
        int runners = random.nextInt(7);
        if (random.nextInt(4) > 0) {
            both("race", 10 + random.nextInt(51));
        }
        for (int i = 0; i < runners; i++) {
            both("one", random.nextInt(6), 1 + random.nextInt(9), random.nextInt(6));
        }
        boolean long9999 = run % 40 == 0;
        for (int k = 0; k < 170 && long9999; k++) {
            both("ticks", 60);
        }
        while (calls < 500) {
            if (random.nextInt(60) == 0 && calls < 300) {
                tellText();
            } else {
                step();
            }
            if (random.nextInt(8) == 0) {
                both("digest");
            }
        }
        both("digest");
        both("status", 0);
        both("status", 1);
        both("status", 2);
    }

    private void step() {
        String name = NAMES[random.nextInt(NAMES.length)];
        boolean wild = random.nextInt(25) == 0;
        switch (name) {
            case "race" -> {
                if (random.nextInt(6) == 0) {
                    both(name, wild(wild, 10 + random.nextInt(51)));
                }
            }
            case "clear" -> {
                if (random.nextInt(6) == 0) {
                    both(name);
                }
            }
            case "one" -> both(name, wild(wild, random.nextInt(6)), wild(wild, 1 + random.nextInt(9)), random.nextInt(6));
            case "type" -> both(name, wild(wild, random.nextInt(128)));
            case "ticks" -> both(name, wild(wild, 1 + random.nextInt(random.nextInt(5) == 0 ? 60 : 4)));
            case "speed" -> both(name, who(wild), wild(wild, random.nextInt(10)));
            case "start" -> both(name, who(wild), wild(wild, 1 + random.nextInt(random.nextBoolean() ? 30 : 4)));
            case "of" -> both(name, who(wild), wild(wild, random.nextInt(10)));
            case "where" -> both(name, who(wild), wild(wild, random.nextInt(61)));
            case "home", "tell", "is", "look", "kinds", "ask" -> both(name, who(wild));
            case "order" -> both(name, wild(wild, random.nextInt(7)));
            case "best" -> both(name, who(wild), wild(wild, random.nextInt(2)));
            case "turn" -> both(name, who(wild), random.nextInt(10), wild(wild, random.nextInt(2)));
            case "beats" -> both(name, who(wild), who(wild));
            case "close" -> both(name, who(wild), who(wild), wild(wild, random.nextInt(2)));
            case "seen" -> seen(wild);
            case "strong" -> both(name, who(wild), wild(wild, random.nextInt(3)));
            case "note" -> note(wild);
            case "mark" -> mark(wild);
            case "forget" -> both(name, wild(wild, random.nextInt(3)));
            case "pair" -> both(name, who(wild), who(wild), wild(wild, random.nextInt(3) == 0 ? -1 : random.nextInt(random.nextInt(4) == 0 ? 110 : 4)));
            case "stumble" -> both(name, who(wild), wild(wild, random.nextInt(random.nextBoolean() ? 61 : 20)), random.nextInt(7), wild(wild, random.nextInt(11)));
            case "races" -> both(name, wild(wild, random.nextInt(1000000)), wild(wild, random.nextInt(61)));
            case "part", "image", "from" -> both(name, wild(wild, random.nextInt(2)));
            case "status" -> both(name, wild(wild, random.nextInt(3)));
            case "count" -> both(name, wild(wild, random.nextInt(11)));
            default -> both(name);
        }
    }

    // Rows that are so by some kind leave something to tell; wholly random ones hardly ever do.
    private void seen(boolean wild) {
        int i = who(false);
        int t = random.nextInt(100);
        int s = random.nextInt(10);
        int kind = Math.max(0, (int) naive.call("count", 0) > i ? (int) naive.call("of", i, 0) : 0);
        int x = random.nextInt(5) == 0 ? random.nextInt(16) : Naive.runs(kind, 1 + random.nextInt(9), t, s);
        both("seen", wild(wild, i), wild(wild, t), s, wild(wild, x));
    }

    private void note(boolean wild) {
        int l = 1 + random.nextInt(9);
        int t = random.nextInt(100);
        int s = random.nextInt(10);
        int x = random.nextInt(5) == 0 ? random.nextInt(16) : Naive.runs(random.nextInt(6), l, t, s);
        both("note", who(wild), wild(wild, l), wild(wild, t), s, wild(wild, x));
    }

    private void mark(boolean wild) {
        int t = random.nextInt(100);
        int x = random.nextInt(5) == 0 ? random.nextInt(16) : Naive.may(random.nextInt(6), t);
        both("mark", who(wild), wild(wild, t), wild(wild, x));
    }

    private int who(boolean wild) {
        int n = (int) naive.call("count", 0);
        return wild(wild, n == 0 || random.nextInt(20) == 0 ? random.nextInt(7) : random.nextInt(n));
    }

    private int wild(boolean wild, int tame) {
        if (!wild || random.nextBoolean()) {
            return tame;
        }
        int[] hard = {Integer.MIN_VALUE, Integer.MAX_VALUE, -1, -2, tame + 1, tame - 1, 6, 10, 31, 61, 100, 128, 1000000};
        return hard[random.nextInt(hard.length)];
    }

    private void tellText() {
        both("clear");
        StringBuilder text = new StringBuilder();
        int length = 10 + random.nextInt(51);
        add(text, "race", length);
        int runners = 0;
        int items = random.nextInt(9);
        for (int k = 0; k < items; k++) {
            int sort = random.nextInt(5);
            if (runners == 0 || sort == 0) {
                add(text, "one", random.nextInt(6), 1 + random.nextInt(9), random.nextInt(6));
                runners++;
            } else if (sort == 1) {
                add(text, "speed", random.nextInt(runners), random.nextInt(10));
            } else if (sort == 2) {
                add(text, "start", random.nextInt(runners), random.nextInt(Math.min(31, length)));
            } else {
                add(text, "go", 1 + random.nextInt(random.nextInt(4) == 0 ? 99 : 5));
            }
        }
        int faults = random.nextInt(3);
        for (int k = 0; k < faults && text.length() > 0; k++) {
            int at = random.nextInt(text.length());
            String signs = "0123456789; abgoe\tR;;  9";
            char sign = signs.charAt(random.nextInt(signs.length()));
            switch (random.nextInt(4)) {
                case 0 -> text.setCharAt(at, sign);
                case 1 -> text.insert(at, sign);
                case 2 -> text.deleteCharAt(at);
                default -> text.setLength(at);
            }
        }
        for (int k = 0; k < text.length(); k++) {
            both("type", text.charAt(k));
        }
        both("read");
        both("digest");
    }

    private void add(StringBuilder text, String word, int... numbers) {
        blanks(text);
        text.append(word);
        for (int n : numbers) {
            text.append(' ');
            blanks(text);
            text.append(n < 10 && random.nextInt(8) == 0 ? "0" : "").append(n);
        }
        blanks(text);
        text.append(';');
    }

    private void blanks(StringBuilder text) {
        if (random.nextInt(10) == 0) {
            text.append(' ');
        }
    }

    private void both(String name, int... v) {
        calls++;
        check.due("run " + run + " call " + calls + " " + name + Arrays.toString(v), naive.call(name, v), Calls.on(real, name, v));
    }
}
