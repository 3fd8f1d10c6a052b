/** Promises 30 to 34: ticks, loudness, silence and clashes. */
public final class NightTest {
    private static final Class<IllegalArgumentException> WRONG = IllegalArgumentException.class;

    private NightTest() {
    }

    public static void main(String[] args) {
        Checks c = new Checks("NightTest");
        go(c);
        heard(c);
        voices(c);
        bass(c);
        phrases(c);
        c.end();
    }

    private static void go(Checks c) {
        MixBooth x = Booths.withOne();
        c.is("30: all silent", 2000, () -> x.go(2000));
        c.is("31: gone", 2000, x::ticks);
        c.is("33: silent", 2000, x::silence);
        x.setFader(0, 1);
        x.play(0);
        c.is("30: none silent", 0, () -> x.go(1));
        x.setFader(0, 0);
        c.is("30: silent at fader 0", 7, () -> x.go(7));
        c.is("33: the sum", 2007, x::silence);
        c.is("31: the sum", 2008, x::ticks);
        x.setFader(0, 100);
        x.jump(0, 99);
        c.is("30: the last tick, in which it stops, is silent", 11, () -> x.go(60));
        c.refused("30: below", WRONG, () -> x.go(0));
        c.refused("30: below", WRONG, () -> x.go(-5));
        c.refused("30: above", WRONG, () -> x.go(2001));
        c.is("31: refused ones do not go by", 2068, x::ticks);
    }

    private static void heard(Checks c) {
        MixBooth x = new MixBooth();
        x.addRecord(1200, 99, 0, 9, 8, 0, 0);
        for (int deck = 0; deck < 4; deck++) {
            x.load(deck, 0);
            x.setFader(deck, 100);
        }
        c.is("32: 0 at first", 0, x::heard);
        x.play(0);
        c.is("32: of the last tick", 0, x::heard);
        x.go(1);
        c.is("32: one deck", 1000, x::heard);
        x.play(1);
        x.setFader(1, 99);
        x.go(1);
        c.is("32: two decks", 1990, x::heard);
        x.play(2);
        x.go(1);
        c.is("32: cut to 2000", 2000, x::heard);
        c.is("58: the cut one counts", (1000 + 1990 + 2000) / 3.0, x::meanLoudness);
        x.stop(0);
        x.stop(1);
        x.setSide(2, 'l');
        x.setCross(67);
        x.setBand(2, 2, 1);
        c.is("32: still that tick", 2000, x::heard);
        x.go(1);
        c.is("32: divided once, cut", 33 * 10 * 201 / 300, x::heard);
    }

    /** Two records with voices in the phrases of the bits, both heard. */
    private static MixBooth two(int voices, int otherVoices, int quiet, int otherQuiet) {
        MixBooth x = new MixBooth();
        x.addRecord(1200, 500, 0, 3, 8, voices, quiet);
        x.addRecord(1200, 500, 0, 3, 8, otherVoices, otherQuiet);
        for (int deck = 0; deck < 2; deck++) {
            x.load(deck, deck);
            x.setFader(deck, 30);
            x.play(deck);
        }
        return x;
    }

    private static void voices(Checks c) {
        MixBooth x = two(65535, 65535, 65535, 65535);
        x.go(10);
        c.is("34: voices", 10, () -> x.clashes('v'));
        c.is("34: no bass", 0, () -> x.clashes('b'));
        x.setFader(1, 29);
        x.go(5);
        c.is("34: one is not heard", 10, () -> x.clashes('v'));
        x.setFader(1, 30);
        x.load(2, 0);
        x.setFader(2, 100);
        x.play(2);
        x.go(5);
        c.is("34: three clash once", 15, () -> x.clashes('v'));
        x.stop(2);
        x.stop(1);
        x.go(5);
        c.is("34: one alone does not", 15, () -> x.clashes('v'));
        c.refused("34: no such thing", WRONG, () -> x.clashes('x'));
        c.refused("34: no such thing", WRONG, () -> x.clashes('V'));
        MixBooth one = two(65535, 0, 65535, 0);
        one.go(10);
        c.is("34: one voice, one bass", 0, () -> one.clashes('v') + one.clashes('b'));
    }

    private static void bass(Checks c) {
        MixBooth x = two(0, 0, 0, 0);
        x.setBand(0, 0, 50);
        x.setBand(1, 0, 50);
        x.go(10);
        c.is("34: bass", 10, () -> x.clashes('b'));
        c.is("34: no voices", 0, () -> x.clashes('v'));
        x.setBand(0, 0, 49);
        x.go(10);
        c.is("34: a low band below 50", 10, () -> x.clashes('b'));
        x.setBand(0, 0, 100);
        x.setBand(0, 1, 0);
        x.setBand(0, 2, 0);
        x.go(10);
        c.is("34: other bands do not count", 20, () -> x.clashes('b'));
        x.setFader(0, 29);
        x.go(10);
        c.is("34: one is not heard", 20, () -> x.clashes('b'));
        x.setFader(0, 30);
        x.load(2, 0);
        x.setFader(2, 100);
        x.play(2);
        x.go(5);
        c.is("34: three clash once", 25, () -> x.clashes('b'));
    }

    private static void phrases(Checks c) {
        MixBooth x = two(1 << 1 | 1 << 15, 65535, 1, 65535 - 2);
        x.go(399);
        c.is("34: ahead of the phrase", 0, () -> x.clashes('v') + x.clashes('b'));
        x.go(1);
        c.is("34: the place behind the tick tells the phrase", 1, () -> x.clashes('v'));
        c.is("34: bass likewise", 1, () -> x.clashes('b'));
        x.go(500);
        c.is("34: a phrase of 8 beats", 400, () -> x.clashes('v'));
        c.is("34: a phrase with bass in both", 400, () -> x.clashes('b'));
        x.jump(0, 15 * 8);
        x.jump(1, 15 * 8);
        x.go(1);
        c.is("34: the last bit", 401, () -> x.clashes('v'));
        x.jump(0, 16 * 8);
        x.go(1);
        c.is("34: the first bit again", 401, () -> x.clashes('v'));
        x.jump(0, 17 * 8);
        x.go(1);
        c.is("34: modulo 16", 402, () -> x.clashes('v'));
        MixBooth y = new MixBooth();
        y.addRecord(1200, 99, 0, 3, 32, 2, 0);
        y.load(0, 0);
        y.load(1, 0);
        y.setFader(0, 100);
        y.setFader(1, 100);
        y.play(0);
        y.play(1);
        y.go(1599);
        c.is("34: a phrase of 32 beats", 0, () -> y.clashes('v'));
        y.go(2);
        c.is("34: the next phrase of 32 beats", 2, () -> y.clashes('v'));
    }
}
