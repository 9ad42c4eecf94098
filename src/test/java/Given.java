/** What a test starts from. */
final class Given {
    private Given() {
    }

    /** A race of that length, with runners told by three numbers each: KIND, LEGS, KIND of the EGG. */
    static EggSpoons runners(int length, int... kindLegsEgg) {
        EggSpoons x = new EggSpoons();
        x.race(length);
        for (int k = 0; k + 2 < kindLegsEgg.length; k += 3) {
            x.one(kindLegsEgg[k], kindLegsEgg[k + 1], kindLegsEgg[k + 2]);
        }
        return x;
    }

    /** The text of the object becomes this one. */
    static void text(EggSpoons x, String text) {
        x.clear();
        for (int k = 0; k < text.length(); k++) {
            x.type(text.charAt(k));
        }
    }
}
