/** Booths that several tests begin with. */
final class Booths {
    static final long BEAT = 60000000L;
    /** What a plain record goes on in a tick at the pitch 0; 50 of them are a beat. */
    static final long STEP = 1200000L;

    private Booths() {
    }

    /** A step of 1200000 units a tick: a beat is 50 ticks. */
    static int plain(MixBooth x, int beats) {
        return x.addRecord(1200, beats, 0, 3, 8, 0, 0);
    }

    /** One plain record of 100 beats on deck 0. */
    static MixBooth withOne() {
        MixBooth x = new MixBooth();
        plain(x, 100);
        x.load(0, 0);
        return x;
    }

    /** The same, and it plays with the fader up. */
    static MixBooth playing() {
        MixBooth x = withOne();
        x.setFader(0, 100);
        x.play(0);
        return x;
    }

    /** One plain record of 100 beats on each deck; none of them plays. */
    static MixBooth withFour() {
        MixBooth x = withOne();
        for (int deck = 1; deck < 4; deck++) {
            x.load(deck, 0);
        }
        return x;
    }

    /** Brings a deck with a plain record of 100 beats to its last place, where it stands. */
    static void toLastPlace(MixBooth x, int deck) {
        x.jump(deck, 99);
        x.play(deck);
        x.go(50);
    }

    /** Brings a deck with a plain record of 100 beats to one unit ahead of a beat, 68 to 99, where it stands. */
    static void toUnitAheadOf(MixBooth x, int deck, int beat) {
        toLastPlace(x, deck);
        x.skip(deck, 100 - beat);
    }

    static int perform(MixBooth x, String text) {
        x.wipe();
        for (int i = 0; i < text.length(); i++) {
            x.type(text.charAt(i));
        }
        return x.perform();
    }

    static void goFar(MixBooth x, int ticks) {
        for (int left = ticks; left > 0; left -= 2000) {
            x.go(Math.min(left, 2000));
        }
    }
}
