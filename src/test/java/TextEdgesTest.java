/** The boundary cases that the document names for THE TEXT: its bytes, tokens, numbers, items, faults. */
public final class TextEdgesTest {
    private static final int NONE = EggSpoons.NONE, BAD = EggSpoons.BAD, NO = EggSpoons.NO, FULL = EggSpoons.FULL;
    private static final String SIX = "race 20;" + "one 0 1 0;".repeat(6);
    private static final Check check = new Check("TextEdgesTest");

    private static void due(String call, long want, long got) {
        check.due(call, want, got);
    }

    public static void main(String[] args) {
        bytes();
        emptyOrTooEarly();
        raceFirstAndOnce();
        words();
        bytesThatBeginNone();
        figures();
        blanks();
        numbersOfRace();
        numbersOfOne();
        seventhOne();
        numbersOfSpeed();
        numbersOfStart();
        numbersOfGo();
        notThereYet();
        startOfOneWhoIsHome();
        speedIsNotRefused();
        theFirstFaultCounts();
        manyItems();
        fullOfOneSort();
        oneBehindTheOther();
        takesThePlace();
        check.finish();
    }

    private static EggSpoons some() {
        EggSpoons x = Given.runners(33, 2, 5, 3, 0, 4, 0);
        x.ticks(2);
        x.speed(1, 3);
        x.seen(0, 1, 2, 3);
        x.note(0, 1, 2, 3, 4);
        x.mark(0, 1, 2);
        x.stumble(1, 11, 1, 3);
        return x;
    }

    private static EggSpoons read(String text, int items) {
        EggSpoons x = some();
        Given.text(x, text);
        due("\"" + text + "\"", items, x.read());
        return x;
    }

    private static void fault(String text, int place) {
        EggSpoons x = some();
        Given.text(x, text);
        long before = x.digest();
        due("\"" + text + "\"", -10 - place, x.read());
        due("\"" + text + "\": all stays", before, x.digest());
        due("\"" + text + "\": undo stays", 2, x.undo());
        due("\"" + text + "\": no status", 0, x.status(0) + x.status(1) + x.status(2));
    }

    private static void bytes() {
        EggSpoons x = new EggSpoons();
        due("an empty text", 0, x.count(10));
        due("an empty text is cleared", 0, x.clear());
        due("byte 0", 1, x.type(0));
        due("byte 127", 2, x.type(127));
        due("byte -1", BAD, x.type(-1));
        due("byte 128", BAD, x.type(128));
        due("two bytes", 2, x.clear());
        for (int k = 1; k < 150; k++) {
            x.type(' ');
        }
        due("the 150th", 150, x.type(' '));
        due("the 151st", FULL, x.type(' '));
        due("150", 150, x.count(10));
        due("150 blanks", -160, x.read());
        due("150 cleared", 150, x.clear());
        due("then it goes on", 1, x.type(59));
    }

    private static void emptyOrTooEarly() {
        fault("", 0);
        fault(" ", 1);
        fault("race", 4);
        fault("race ", 5);
        fault("race 20", 7);
        fault("race 20 ", 8);
        fault("race 20;one", 11);
        fault("race 20;one 0", 13);
        fault("race 20;one 0 1", 15);
        fault("race 20;one 0 1 0", 17);
        fault("race 20;go", 10);
        fault("race 20;go 1", 12);
        fault("race 20;one 0 1 0;speed", 23);
        fault("race 20;one 0 1 0;speed 0", 25);
        fault("race 20;one 0 1 0;speed 0 1", 27);
        fault("race 20;one 0 1 0;start", 23);
        fault("race 20;one 0 1 0;start 0", 25);
        fault("race 20;one 0 1 0;start 0 1", 27);
        fault("race 20" + " ".repeat(143), 150);
        fault(SIX + "go 1" + " ".repeat(78), 150);
    }

    private static void raceFirstAndOnce() {
        fault("one 0 1 0;race 20;", 0);
        fault("go 1;", 0);
        fault("speed 0 1;", 0);
        fault("start 0 1;", 0);
        fault(";race 20;", 0);
        fault("20;", 0);
        fault("  one", 2);
        fault("race 20;race 20;", 8);
        fault("race 20;race 30;", 8);
        fault("race 20; race", 9);
        fault("race 20;go 1;race 20;", 13);
        fault("race race 20;", 5);
    }

    private static void words() {
        fault("rac 20;", 0);
        fault("racer 20;", 0);
        fault("race 20;on 0 1 0;", 8);
        fault("race 20;ones 0 1 0;", 8);
        fault("race 20;sped 0 1;", 8);
        fault("race 20;speeds 0 1;", 8);
        fault("race 20;star 0 1;", 8);
        fault("race 20;starts 0 1;", 8);
        fault("race 20;g 1;", 8);
        fault("race 20;gog 1;", 8);
        fault("face 20;", 0);
        fault("race 20;ine 0 1 0;", 8);
        fault("race 20;apeed 0 1;", 8);
        fault("race 20;ztart 0 1;", 8);
        fault("race 20;no 1;", 8);
        fault("race 20;a;", 8);
        fault("race 20;z;", 8);
        fault("race 20;g o 1;", 8);
        fault("race go;", 5);
        fault("race 20 go 1;", 8);
        fault("race 20go 1;", 7);
        fault("race 20;go one;", 11);
    }

    private static void bytesThatBeginNone() {
        for (int c = 0; c < 128; c++) {
            boolean begins = c >= 'a' && c <= 'z' || c >= '0' && c <= '9' || c == ';' || c == ' ';
            String sign = String.valueOf((char) c);
            if (!begins) {
                fault(sign, 0);
                fault("race" + sign + "20;", 4);
                fault("race 20" + sign + ";", 7);
                fault("race 20;" + sign, 8);
            }
        }
        fault("race -20;", 5);
        fault("race 2.0;", 5);
        fault("race 20.;", 7);
        fault("Race 20;", 0);
        fault("racE 20;", 0);
    }

    private static void figures() {
        read("race 20;one 00 01 05;start 0 00;speed 0 09;go 01;", 5);
        due("two figures", 20, read("race 20;", 1).count(2));
        fault("race 020;", 5);
        fault("race 0020;", 5);
        fault("race 200;", 5);
        fault("race 20;one 000 1 0;", 12);
        fault("race 20;one 0 001 0;", 14);
        fault("race 20;one 0 1 000;", 16);
        fault("race 20;one 010;", 12);
        fault("race 20;go 001;", 11);
        fault("race 20;go 99999999999999999999;", 11);
        fault("race 20;go 4294967297;", 11);
        fault("race 20 200;", 8);
        fault("200", 0);
        fault("race 2 0;", 5);
    }

    private static void blanks() {
        read(" race 20;", 1);
        read("race 20; ", 1);
        read("race   20   ;   go   1   ;", 2);
        read("race20;one0 1 0;go1;", 3);
        fault("race\t20;", 4);
        fault("race\n20;", 4);
        fault("race 20;\n", 8);
        fault("ra ce 20;", 0);
    }

    private static void numbersOfRace() {
        fault("race 9;", 5);
        fault("race 09;", 5);
        fault("race 0;", 5);
        fault("race 61;", 5);
        fault("race 99;", 5);
        due("10", 10, read("race 10;", 1).count(2));
        due("60", 60, read("race 60;", 1).count(2));
        fault("race ;", 5);
        fault("race 20 20;", 8);
    }

    private static void numbersOfOne() {
        EggSpoons x = read("race 20;one 0 1 0;one 5 9 5;", 3);
        int[][] facts = {{0, 1, 0, 4, 0, 0, 0, NONE}, {5, 9, 5, 4, 0, 0, 0, NONE}};
        for (int i = 0; i < 2; i++) {
            for (int what = 0; what < 8; what++) {
                due("of(" + i + ", " + what + ")", facts[i][what], x.of(i, what));
            }
        }
        fault("race 20;one 6 1 0;", 12);
        fault("race 20;one 0 0 0;", 14);
        fault("race 20;one 0 10 0;", 14);
        fault("race 20;one 0 1 6;", 16);
        fault("race 20;one ;", 12);
        fault("race 20;one 0 ;", 14);
        fault("race 20;one 0 1 ;", 16);
        fault("race 20;one 0 1 0 1;", 18);
    }

    private static void seventhOne() {
        due("six", 6, read(SIX, 7).count(0));
        fault(SIX + "one 0 1 0;", 68);
        fault(SIX + "one", 68);
        fault(SIX + "  one 9", 70);
        due("six, and more of another", 6, read(SIX + "go 1;speed 5 9;start 5 3;", 10).count(0));
    }

    private static void numbersOfSpeed() {
        due("0", 0, read("race 20;one 0 1 0;speed 0 0;", 3).of(0, 3));
        due("9", 9, read("race 20;one 0 1 0;speed 0 9;", 3).of(0, 3));
        fault("race 20;one 0 1 0;speed 0 10;", 26);
        fault("race 20;one 0 1 0;speed 1 1;", 24);
        fault("race 20;one 0 1 0;speed ;", 24);
        fault("race 20;one 0 1 0;speed 0;", 25);
        fault("race 20;one 0 1 0;speed 0 1 1;", 28);
        fault(SIX + "speed 6 1;", 74);
    }

    private static void numbersOfStart() {
        due("0", 0, read("race 20;one 0 1 0;start 0 0;", 3).of(0, 4));
        due("30", 30, read("race 60;one 0 1 0;start 0 30;", 3).of(0, 4));
        due("below L, 31", 30, read("race 31;one 0 1 0;start 0 30;", 3).of(0, 4));
        due("below L, 30", 29, read("race 30;one 0 1 0;start 0 29;", 3).of(0, 4));
        due("below L, 10", 9, read("race 10;one 0 1 0;start 0 9;", 3).of(0, 4));
        fault("race 60;one 0 1 0;start 0 31;", 26);
        fault("race 30;one 0 1 0;start 0 30;", 26);
        fault("race 10;one 0 1 0;start 0 10;", 26);
        fault("race 10;one 0 1 0;start 0 30;", 26);
        fault("race 20;one 0 1 0;start 1 1;", 24);
        fault("race 20;one 0 1 0;start 0;", 25);
        fault("race 20;one 0 1 0;start 0 1 1;", 28);
        fault(SIX + "start 6 1;", 74);
        due("PLACE x, not farther by x", 2, read("race 20;one 0 4 0;start 0 9;start 0 2;", 4).of(0, 4));
        due("back, too", 0, read("race 20;one 0 4 0;go 2;start 0 0;", 4).of(0, 4));
        due("WAITS stay", 2, read("race 20;one 0 9 0;speed 0 9;go 1;start 0 3;", 5).of(0, 6));
        due("nobody is home by it", 0, read("race 20;one 0 9 0;start 0 19;", 3).count(1));
    }

    private static void numbersOfGo() {
        due("1", 1, read("race 20;go 1;", 2).count(3));
        due("99", 99, read("race 20;go 99;", 2).count(3));
        due("99 and 99", 198, read("race 20;go 99;go 99;", 3).count(3));
        fault("race 20;go 0;", 11);
        fault("race 20;go 00;", 11);
        fault("race 20;go 100;", 11);
        fault("race 20;go ;", 11);
        fault("race 20;go 1 1;", 13);
    }

    private static void notThereYet() {
        fault("race 20;speed 0 1;", 14);
        fault("race 20;start 0 1;", 14);
        fault("race 20;one 0 1 0;speed 1 1;one 0 1 0;", 24);
        fault("race 20;one 0 1 0;start 1 1;one 0 1 0;", 24);
        read("race 20;one 0 1 0;one 0 1 0;speed 1 1;start 1 1;", 5);
    }

    private static void startOfOneWhoIsHome() {
        fault("race 12;one 0 4 0;go 3;start 0 1;", 29);
        fault("race 12;one 0 4 0;go 3;start 0 99;", 29);
        due("not home yet", 1, read("race 12;one 0 4 0;go 2;start 0 1;", 4).of(0, 4));
        due("another one", 1, read("race 12;one 0 4 0;one 0 1 0;go 3;start 1 1;", 5).of(1, 4));
        due("put back one is home later", 5, read("race 12;one 0 4 0;go 2;start 0 0;go 3;", 5).of(0, 7));
    }

    /** A text is at fault by start alone, where a call would be NO. */
    private static void speedIsNotRefused() {
        due("one who is home", 7, read("race 12;one 0 4 0;go 3;speed 0 7;", 4).of(0, 3));
        due("it is so", 4, read("race 12;one 0 4 0;speed 0 4;", 3).of(0, 3));
    }

    private static void theFirstFaultCounts() {
        fault("race 61;race 9;#", 5);
        fault("race 20;one 6 10 6;", 12);
        fault("race 20;one 0 10 6;", 14);
        fault("race 20;speed 0 10;", 14);
        fault("race 20;one 0 1 0;start 0 20 #", 26);
        fault("race 20;one 0 1 0#;one 9", 17);
        fault("race 20;one 0 1 0;go 1;stop;go 0;", 23);
    }

    private static void manyItems() {
        EggSpoons x = read("race10;" + "go99;".repeat(28) + "   ", 29);
        due("28 times 99", 2772, x.count(3));
        due("150 bytes", 150, x.count(10));
        fault("race10;" + "go99;".repeat(28) + "go9", 150);
    }

    private static void fullOfOneSort() {
        fault("a".repeat(150), 0);
        fault("1".repeat(150), 0);
        fault(";".repeat(150), 0);
        fault("race 20;" + "z".repeat(142), 8);
        fault("race 20;go " + "9".repeat(139), 11);
        fault("race 20;" + " ".repeat(140) + "go", 150);
        fault("race 20;" + " ".repeat(138) + "go 9", 150);
    }

    /** What one reading or one text leaves behind does not come into the next. */
    private static void oneBehindTheOther() {
        EggSpoons x = new EggSpoons();
        Given.text(x, "racexyz");
        due("a word that is none", -10, x.read());
        Given.text(x, "race");
        due("the cleared text is gone", -14, x.read());
        Given.text(x, "race 20;");
        due("behind a fault", 1, x.read());
        Given.text(x, "race 30;one 0 4 0;go 1;");
        due("behind a race", 3, x.read());
        long before = x.digest();
        x.races(3, 60);
        due("races behind a reading change nothing", before, x.digest());
        Given.text(x, "race 40;one 5 5 5;one 5 5 5;go 9;#");
        due("a fault at the end", -10 - 33, x.read());
        due("all stays", 30, x.count(2));
        due("all stays", 1, x.count(0));
        due("all stays", 1, x.count(3));
        due("all stays", 4, x.of(0, 4));
    }

    private static void takesThePlace() {
        EggSpoons x = some();
        x.image(1);
        x.undo();
        x.order(9);
        Given.text(x, "race 45;one 1 9 1;go 1;");
        due("read", 3, x.read());
        int[] counts = {1, 0, 45, 1, 4, 0, 0, 0, 0, 0, 23};
        for (int what = 0; what < counts.length; what++) {
            due("count(" + what + ")", counts[what], x.count(what));
        }
        due("nothing to undo", NO, x.undo());
        due("fraction", 7, x.part(0));
        due("fraction", 10, x.part(1));
        due("status", 2, x.status(1));
        due("read again", 3, x.read());
        due("the image stays", 1, x.from(1));
        due("L", 33, x.count(2));
        due("what may be undone", 2, x.count(9));
        due("the other image was not kept", NO, x.from(0));
    }
}
