/** Booths that several tests begin with. */
final class Booths {
    private Booths() {
    }

    /** A step of 1200000 units a tick: a beat is 50 ticks. */
    static int plain(MixBooth x, int beats) {
        return x.addRecord(1200, beats, 0, 3, 8, 0, 0);
    }

    /** One plain record of 100 beats on deck 0. */
    static MixBooth withOne() {
        MixBooth x = new MixBooth();
        plain(x, 100);
        x.load(0, 0);
        return x;
    }

    /** The same, and it plays with the fader up. */
    static MixBooth playing() {
        MixBooth x = withOne();
        x.setFader(0, 100);
        x.play(0);
        return x;
    }

    static int perform(MixBooth x, String text) {
        x.wipe();
        for (int i = 0; i < text.length(); i++) {
            x.type(text.charAt(i));
        }
        return x.perform();
    }

    static void goFar(MixBooth x, int ticks) {
        for (int left = ticks; left > 0; left -= 2000) {
            x.go(Math.min(left, 2000));
        }
    }
}
