import java.util.NoSuchElementException;

/** Promises 22 to 29: faders, bands, sides, the crossfader and the effects. */
public final class MixerTest {
    private static final Class<IllegalArgumentException> WRONG = IllegalArgumentException.class;
    private static final Class<IndexOutOfBoundsException> NO_SUCH = IndexOutOfBoundsException.class;

    private MixerTest() {
    }

    public static void main(String[] args) {
        Checks c = new Checks("MixerTest");
        setFader(c);
        setBand(c);
        setSide(c);
        setCross(c);
        level(c);
        addEffect(c);
        dropEffects(c);
        tail(c);
        chop(c);
        c.end();
    }

    private static void setFader(Checks c) {
        MixBooth x = Booths.playing();
        c.is("22: 0 at first", 0, () -> x.setFader(3, 100));
        c.is("22: the one before", 100, () -> x.setFader(3, 0));
        c.is("22: of its own deck", 100, () -> x.setFader(0, 50));
        x.go(1);
        c.is("22: half as loud", 200, x::heard);
        c.refused("22: above", WRONG, () -> x.setFader(0, 101));
        c.refused("22: below", WRONG, () -> x.setFader(0, -1));
        c.refused("22: the deck is looked at first", NO_SUCH, () -> x.setFader(4, 101));
        c.refused("22: no such deck", NO_SUCH, () -> x.setFader(-1, 0));
        c.is("22: as it was", 50, () -> x.setFader(0, 50));
    }

    private static void setBand(Checks c) {
        MixBooth x = Booths.playing();
        for (int band = 0; band < 3; band++) {
            int b = band;
            c.is("23: 100 at first", 100, () -> x.setBand(0, b, 0));
            c.is("23: the one before", 0, () -> x.setBand(0, b, 99));
            c.is("23: another deck", 100, () -> x.setBand(2, b, 100));
        }
        x.setBand(0, 1, 50);
        x.setFader(0, 99);
        x.go(1);
        c.is("23: the sum of the bands, cut", 99 * 4 * 248 / 300, x::heard);
        c.refused("23: no such band", WRONG, () -> x.setBand(0, 3, 0));
        c.refused("23: no such band", WRONG, () -> x.setBand(0, -1, 0));
        c.refused("23: above", WRONG, () -> x.setBand(0, 0, 101));
        c.refused("23: below", WRONG, () -> x.setBand(0, 0, -1));
        c.refused("23: the deck is looked at first", NO_SUCH, () -> x.setBand(4, 3, 0));
        c.refused("23: no such deck", NO_SUCH, () -> x.setBand(-1, 0, 0));
    }

    private static void setSide(Checks c) {
        MixBooth x = Booths.withOne();
        c.is("24: m at first", 'm', () -> x.setSide(0, 'l'));
        c.is("24: l", 'l', () -> x.setSide(0, 'r'));
        c.is("24: r", 'r', () -> x.setSide(0, 'm'));
        c.is("24: another deck", 'm', () -> x.setSide(3, 'm'));
        c.refused("24: no such side", WRONG, () -> x.setSide(0, 'L'));
        c.refused("24: no such side", WRONG, () -> x.setSide(0, (char) 0));
        c.refused("24: the deck is looked at first", NO_SUCH, () -> x.setSide(4, 'x'));
        c.refused("24: no such deck", NO_SUCH, () -> x.setSide(-1, 'l'));
    }

    private static void setCross(Checks c) {
        MixBooth x = new MixBooth();
        c.is("25: 0 at first", 0, () -> x.setCross(100));
        c.is("25: the one before", 100, () -> x.setCross(-100));
        c.is("25: below 0", -100, () -> x.setCross(3));
        c.refused("25: above", WRONG, () -> x.setCross(101));
        c.refused("25: below", WRONG, () -> x.setCross(-101));
        c.is("25: as it was", 3, () -> x.setCross(0));
    }

    private static void level(Checks c) {
        MixBooth x = Booths.withOne();
        x.setFader(0, 77);
        c.is("26: it does not play", 0, () -> x.level(0));
        x.play(0);
        char[] sides = {'l', 'm', 'r'};
        int[] crosses = {-100, -33, 0, 33, 100};
        int[][] due = {{77, 77, 77, 51, 0}, {77, 77, 77, 77, 77}, {0, 51, 77, 77, 77}};
        for (int s = 0; s < sides.length; s++) {
            x.setSide(0, sides[s]);
            for (int k = 0; k < crosses.length; k++) {
                x.setCross(crosses[k]);
                c.is("26: side " + sides[s] + " at " + crosses[k], due[s][k], () -> x.level(0));
            }
        }
        x.setFader(0, 100);
        x.setSide(0, 'r');
        x.setCross(-1);
        c.is("26: r, just below 0", 99, () -> x.level(0));
        x.setSide(0, 'l');
        x.setCross(1);
        c.is("26: l, just above 0", 99, () -> x.level(0));
        x.stop(0);
        c.is("26: it is stopped", 0, () -> x.level(0));
        c.is("26: an empty deck", 0, () -> x.level(1));
        c.refused("26: no such deck", NO_SUCH, () -> x.level(4));
        c.refused("26: no such deck", NO_SUCH, () -> x.level(-1));
    }

    private static void addEffect(Checks c) {
        MixBooth x = Booths.withOne();
        c.is("27: one", 1, () -> x.addEffect(0, 'e', 0));
        c.is("27: two", 2, () -> x.addEffect(0, 'r', 100));
        c.is("27: three", 3, () -> x.addEffect(0, 'c', 50));
        c.refused("27: it has 3", IllegalStateException.class, () -> x.addEffect(0, 'e', 0));
        c.refused("27: the kind is looked at first", WRONG, () -> x.addEffect(0, 'x', 0));
        c.refused("27: above", WRONG, () -> x.addEffect(0, 'e', 101));
        c.refused("27: below", WRONG, () -> x.addEffect(1, 'c', -1));
        c.refused("27: the deck is looked at first", NO_SUCH, () -> x.addEffect(4, 'x', 0));
        c.refused("27: no such deck", NO_SUCH, () -> x.addEffect(-1, 'e', 0));
        c.is("27: an empty deck", 1, () -> x.addEffect(3, 'e', 1));
    }

    private static void dropEffects(Checks c) {
        MixBooth x = Booths.playing();
        c.is("28: none", 0, () -> x.dropEffects(0));
        x.addEffect(0, 'e', 100);
        x.addEffect(0, 'r', 100);
        x.go(1);
        c.is("28: with tails", 1200, x::heard);
        c.is("28: two", 2, () -> x.dropEffects(0));
        c.is("28: none any more", 0, () -> x.dropEffects(0));
        x.addEffect(0, 'e', 10);
        c.is("28: their tails are gone", 0, () -> x.tail(0, 0));
        x.go(1);
        c.is("28: a new tail", 440, x::heard);
        c.refused("28: no such deck", NO_SUCH, () -> x.dropEffects(4));
        c.refused("28: no such deck", NO_SUCH, () -> x.dropEffects(-1));
    }

    private static void tail(Checks c) {
        MixBooth x = Booths.playing();
        x.setFader(0, 99);
        x.addEffect(0, 'e', 51);
        x.addEffect(0, 'r', 51);
        x.addEffect(0, 'e', 0);
        c.is("29: 0 at first", 0, () -> x.tail(0, 0));
        x.go(1);
        int source = 99 * 4;
        int first = source * 51 / 100;
        c.is("29: echo", first, () -> x.tail(0, 0));
        c.is("29: reverb, of the loudness of the deck, too", first, () -> x.tail(0, 1));
        c.is("29: strength 0", 0, () -> x.tail(0, 2));
        c.is("29: heard is all", source + 2 * first, x::heard);
        x.stop(0);
        int[] tails = {first, first};
        for (int i = 0; i < 120; i++) {
            x.go(1);
            tails[0] -= (int) Math.ceil(tails[0] / 20.0);
            tails[1] -= (int) Math.ceil(tails[1] / 50.0);
            int echo = tails[0];
            int reverb = tails[1];
            c.is("29: an echo loses a 20th, rounded up", echo, () -> x.tail(0, 0));
            c.is("29: a reverb loses a 50th, rounded up", reverb, () -> x.tail(0, 1));
            c.is("29: tails are heard when the deck stands", echo + reverb, x::heard);
        }
        c.is("29: an echo has an end", 0, () -> x.tail(0, 0));
        x.loseStick(0);
        x.go(1);
        c.is("29: a tail without a record", tails[1] - (int) Math.ceil(tails[1] / 50.0), () -> x.tail(0, 1));
        c.refused("29: no such effect", NoSuchElementException.class, () -> x.tail(0, 3));
        c.refused("29: no such effect", NoSuchElementException.class, () -> x.tail(0, -1));
        c.refused("29: none at all", NoSuchElementException.class, () -> x.tail(1, 0));
        c.refused("29: the deck is looked at first", NO_SUCH, () -> x.tail(4, -1));
    }

    private static void chop(Checks c) {
        MixBooth x = Booths.playing();
        x.addEffect(0, 'c', 100);
        x.go(24);
        c.is("27: the first half of the beat", 400, x::heard);
        x.go(1);
        c.is("27: the second half begins", 0, x::heard);
        c.is("30: it is silent", 1, x::silence);
        x.go(24);
        c.is("27: the second half ends", 0, x::heard);
        x.go(1);
        c.is("27: the next beat", 400, x::heard);
        c.is("29: a chop has no tail", 0, () -> x.tail(0, 0));
        x.addEffect(0, 'e', 50);
        x.go(26);
        c.is("27: nothing but tails, of what is chopped, too", 190, x::heard);
        c.is("27: a chopped deck is heard by its level", 1, x::light);
    }
}
