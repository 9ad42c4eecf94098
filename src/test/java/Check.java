/** Counts and prints the answers that are not as due. */
final class Check {
    private final String name;
    private int asked = 0;
    private int wrong = 0;

    Check(String name) {
        this.name = name;
    }

    void due(String call, long want, long got) {
        asked++;
        if (got != want) {
            wrong++;
            if (wrong <= 40) {
                System.out.println(name + ": " + call + " answered " + got + ", due is " + want);
            }
        }
    }

    void holds(String what, boolean so) {
        due(what, 1, so ? 1 : 0);
    }

    void finish() {
        System.out.println(name + ": " + asked + " checks, " + wrong + " wrong");
        if (wrong != 0 || asked == 0) {
            System.exit(1);
        }
    }
}
