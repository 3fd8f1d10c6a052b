import java.util.NoSuchElementException;

/** Promises 7 to 21: the decks. */
public final class DecksTest {
    private static final Class<IllegalArgumentException> WRONG = IllegalArgumentException.class;
    private static final Class<IndexOutOfBoundsException> NO_SUCH = IndexOutOfBoundsException.class;
    private static final Class<UnsupportedOperationException> EMPTY = UnsupportedOperationException.class;
    private static final long BEAT = 60000000L;

    private DecksTest() {
    }

    public static void main(String[] args) {
        Checks c = new Checks("DecksTest");
        load(c);
        loadTakesAllOff(c);
        atLastPlace(c);
        loopAtLastPlace(c);
        play(c);
        stop(c);
        setPitch(c);
        nudge(c);
        brake(c);
        jump(c);
        setCue(c);
        loop(c);
        loopGoesRound(c);
        out(c);
        slip(c);
        placeAndTempo(c);
        playsAndOn(c);
        c.end();
    }

    private static void load(Checks c) {
        MixBooth x = new MixBooth();
        Booths.plain(x, 16);
        Booths.plain(x, 16);
        c.is("7: an empty deck", -1, () -> x.load(3, 1));
        c.is("7: the record before", 1, () -> x.load(3, 0));
        c.is("7: the same record again", 0, () -> x.load(3, 0));
        c.is("7: the same record on two decks", -1, () -> x.load(0, 0));
        c.refused("7: no such deck", NO_SUCH, () -> x.load(4, 0));
        c.refused("7: no such deck", NO_SUCH, () -> x.load(-1, 0));
        c.refused("7: no such record", NO_SUCH, () -> x.load(0, 2));
        c.refused("7: no such record", NO_SUCH, () -> x.load(0, -1));
        x.play(3);
        c.refused("7: it plays", EMPTY, () -> x.load(3, 1));
        c.refused("7: the record is looked at first", NO_SUCH, () -> x.load(3, 2));
        c.is("7: the record is still there", 0, () -> x.on(3));
        x.stop(3);
        c.is("7: it stands", 0, () -> x.load(3, 1));
    }

    private static void loadTakesAllOff(Checks c) {
        MixBooth x = Booths.playing();
        x.setPitch(0, 160);
        x.setFader(0, 77);
        x.addEffect(0, 'e', 50);
        x.go(10);
        x.loop(0, 0);
        x.setCue(0, 2);
        x.nudge(0, 9);
        x.slip(0, true);
        x.brake(0);
        x.stop(0);
        x.load(0, 0);
        c.is("7: at the beginning", 0, () -> x.place(0));
        c.is("7: it stands", false, () -> x.plays(0));
        c.is("7: with the pitch as it was", 1200 * 1160, () -> x.tempo(0));
        c.is("7: no loop", false, () -> x.out(0));
        c.is("7: no nudge", 0, () -> x.nudge(0, 0));
        c.is("7: no slip", false, () -> x.slip(0, false));
        c.is("7: the fader stays", 77, () -> x.setFader(0, 0));
        c.is("7: effects stay", 1, () -> x.dropEffects(0));
        c.refused("7: no cue", EMPTY, () -> Booths.perform(x, "Ac2"));
        c.is("7: no cue", 'c', () -> x.cause(1));
    }

    /** A deck that stood at its last place and goes so many beats again comes exactly there by its steps. */
    private static MixBooth aheadOfLastPlace(int beats) {
        MixBooth x = Booths.playing();
        x.jump(0, 99);
        x.go(60);
        x.skip(0, beats);
        x.play(0);
        return x;
    }

    private static void atLastPlace(Checks c) {
        MixBooth x = aheadOfLastPlace(4);
        x.go(200);
        c.is("7: exactly at the last place", 100 * BEAT - 1, () -> x.place(0));
        c.is("20: which is not the end yet", true, () -> x.plays(0));
        c.refused("7: it still plays there", EMPTY, () -> x.load(0, 0));
        c.is("26: with its level", 100, () -> x.level(0));
        c.is("32: it is heard", 400, x::heard);
        c.is("8: it does not begin there", false, () -> x.play(0));
        c.is("30: the next tick stops it", 1, () -> x.go(1));
        c.is("18: at the last place", 100 * BEAT - 1, () -> x.place(0));
        c.is("20: it stands", false, () -> x.plays(0));
        c.is("7: a record comes onto it", 0, () -> x.load(0, 0));
        MixBooth y = aheadOfLastPlace(1);
        y.go(50);
        y.stop(0);
        c.is("8: nor from a stop there", false, () -> y.play(0));
    }

    private static void loopAtLastPlace(Checks c) {
        MixBooth x = aheadOfLastPlace(2);
        x.go(50);
        c.is("15: a loop that ends with the record", 100, () -> x.loop(0, 1));
        x.go(50);
        c.is("15: ahead of its end", 100 * BEAT - 1, () -> x.place(0));
        c.is("15: the deck plays", true, () -> x.plays(0));
        x.go(1);
        c.is("15: and goes round", 98 * BEAT + 1199999, () -> x.place(0));
        c.is("15: it plays on", true, () -> x.plays(0));
    }

    private static void play(Checks c) {
        MixBooth x = Booths.withOne();
        c.is("8: it begins", true, () -> x.play(0));
        c.is("8: it plays", true, () -> x.plays(0));
        c.is("8: it has begun", false, () -> x.play(0));
        c.refused("8: empty", EMPTY, () -> x.play(1));
        c.refused("8: no such deck", NO_SUCH, () -> x.play(4));
        c.refused("8: no such deck", NO_SUCH, () -> x.play(-1));
        x.brake(0);
        x.go(10);
        c.is("8: half as fast", 10 * 600000, () -> x.place(0));
        c.is("8: it does not begin", false, () -> x.play(0));
        x.go(10);
        c.is("8: the brake is off", 10 * 600000 + 10 * 1200000, () -> x.place(0));
        x.brake(0);
        x.stop(0);
        c.is("8: it begins again", true, () -> x.play(0));
        x.go(1);
        c.is("8: without the brake", 19 * 1000000 + 200000, () -> x.place(0));
        x.jump(0, 99);
        x.go(60);
        c.is("8: at its last place", 100 * BEAT - 1, () -> x.place(0));
        c.is("8: it does not begin there", false, () -> x.play(0));
        c.is("8: it stands there", false, () -> x.plays(0));
    }

    private static void stop(Checks c) {
        MixBooth x = Booths.playing();
        x.go(5);
        c.is("9: it played", true, () -> x.stop(0));
        c.is("9: it stands", false, () -> x.plays(0));
        c.is("9: it did not play", false, () -> x.stop(0));
        x.go(5);
        c.is("9: it stays", 5 * 1200000, () -> x.place(0));
        c.is("9: an empty deck", false, () -> x.stop(3));
        c.refused("9: no such deck", NO_SUCH, () -> x.stop(4));
        c.refused("9: no such deck", NO_SUCH, () -> x.stop(-1));
        c.is("9: logged, also if nothing changed", 9, x::logged);
    }

    private static void setPitch(Checks c) {
        MixBooth x = Booths.playing();
        c.is("10: 0 at first", 0, () -> x.setPitch(0, -160));
        x.go(1);
        c.is("10: slower", 1200 * 840, () -> x.place(0));
        c.is("10: the one before", -160, () -> x.setPitch(0, 160));
        x.go(1);
        c.is("10: faster", 1200 * 840 + 1200 * 1160, () -> x.place(0));
        c.is("10: an empty deck", 0, () -> x.setPitch(3, 7));
        c.refused("10: above", WRONG, () -> x.setPitch(0, 161));
        c.refused("10: below", WRONG, () -> x.setPitch(0, -161));
        c.refused("10: the deck is looked at first", NO_SUCH, () -> x.setPitch(4, 161));
        c.refused("10: no such deck", NO_SUCH, () -> x.setPitch(-1, 0));
        c.is("10: as it was", 160, () -> x.setPitch(0, 0));
    }

    private static void nudge(Checks c) {
        MixBooth x = new MixBooth();
        x.addRecord(1001, 99, 0, 0, 8, 0, 0);
        x.load(1, 0);
        x.setPitch(1, 1);
        long step = 1001 * 1001;
        c.is("11: none at first", 0, () -> x.nudge(1, 3));
        x.go(5);
        c.is("11: only ticks in which it plays count", 3, () -> x.nudge(1, 3));
        x.play(1);
        x.go(2);
        c.is("11: a tenth, cut, more", 2 * (step + 100200), () -> x.place(1));
        c.is("11: what was left of it", 1, () -> x.nudge(1, -2));
        x.go(1);
        c.is("11: a tenth, cut, less", 2 * (step + 100200) + step - 100200, () -> x.place(1));
        x.go(2);
        c.is("11: it has an end", 2 * (step + 100200) + 2 * (step - 100200) + step, () -> x.place(1));
        c.is("11: nothing was left", 0, () -> x.nudge(1, -200));
        x.go(50);
        c.is("11: what was left of a slow one", -150, () -> x.nudge(1, 200));
        c.is("11: in place of it", 200, () -> x.nudge(1, 0));
        c.refused("11: above", WRONG, () -> x.nudge(1, 201));
        c.refused("11: below", WRONG, () -> x.nudge(1, -201));
        c.refused("11: empty", EMPTY, () -> x.nudge(0, 5));
        c.refused("11: the number is looked at first", WRONG, () -> x.nudge(0, 201));
        c.refused("11: the deck is looked at first", NO_SUCH, () -> x.nudge(4, 201));
    }

    private static void brake(Checks c) {
        MixBooth x = new MixBooth();
        x.addRecord(1001, 99, 0, 9, 8, 0, 0);
        x.load(0, 0);
        x.setPitch(0, 1);
        x.setFader(0, 100);
        c.is("12: it does not play", false, () -> x.brake(0));
        x.play(0);
        x.go(1);
        long step = 1001 * 1001;
        c.is("12: a brake on a deck that stands is none", step, () -> x.place(0));
        c.is("12: it plays", true, () -> x.brake(0));
        long at = step;
        for (int part = 1; part <= 5; part++) {
            long half = step >> part;
            x.go(9);
            long nine = at + 9 * half;
            c.is("12: halved " + part + " times", nine, () -> x.place(0));
            c.is("12: it still plays", true, () -> x.plays(0));
            x.go(1);
            at = nine + half;
            long ten = at;
            c.is("12: ten ticks of it", ten, () -> x.place(0));
        }
        long stood = at;
        c.is("12: it stands behind 50 ticks", false, () -> x.plays(0));
        c.is("12: it is silent in the last one", 0, x::heard);
        x.go(10);
        c.is("12: it stays", stood, () -> x.place(0));
        x.play(0);
        x.brake(0);
        x.go(45);
        c.is("12: from the beginning", true, () -> x.brake(0));
        x.go(10);
        x.go(39);
        c.is("12: it plays on", true, () -> x.plays(0));
        x.go(1);
        c.is("12: 50 ticks again", false, () -> x.plays(0));
        x.play(0);
        x.brake(0);
        x.go(20);
        x.brake(0);
        long before = x.place(0);
        x.go(1);
        c.is("12: by halves again", before + (step >> 1), () -> x.place(0));
        x.nudge(0, 5);
        long then = x.place(0);
        x.go(1);
        c.is("12: behind a nudge", then + (step + 100200 >> 1), () -> x.place(0));
        c.refused("12: empty", EMPTY, () -> x.brake(1));
        c.refused("12: no such deck", NO_SUCH, () -> x.brake(4));
        c.refused("12: no such deck", NO_SUCH, () -> x.brake(-1));
    }

    private static void jump(Checks c) {
        MixBooth x = Booths.playing();
        x.go(120);
        c.is("13: the beat in which it was", 2, () -> x.jump(0, 99));
        c.is("13: the last beat", 99 * BEAT, () -> x.place(0));
        c.is("13: the first beat", 99, () -> x.jump(0, 0));
        c.is("13: there", 0, () -> x.place(0));
        c.refused("13: no such beat", WRONG, () -> x.jump(0, 100));
        c.refused("13: no such beat", WRONG, () -> x.jump(0, -1));
        c.refused("13: empty", EMPTY, () -> x.jump(1, -1));
        c.refused("13: the deck is looked at first", NO_SUCH, () -> x.jump(4, -1));
        c.is("13: it plays on", true, () -> x.plays(0));
    }

    private static void setCue(Checks c) {
        MixBooth x = Booths.playing();
        x.go(24);
        c.is("14: the nearest is behind", 0, () -> x.setCue(0, 0));
        x.go(1);
        c.is("14: of two the later one", 1, () -> x.setCue(0, 3));
        Booths.perform(x, "Ac3");
        c.is("14: a jump there", BEAT, () -> x.place(0));
        Booths.perform(x, "Ac0");
        c.is("14: cues are apart", 0, () -> x.place(0));
        x.jump(0, 99);
        x.go(30);
        c.is("14: not behind the last one", 99, () -> x.setCue(0, 1));
        c.refused("14: no such cue", WRONG, () -> x.setCue(0, 4));
        c.refused("14: no such cue", WRONG, () -> x.setCue(0, -1));
        c.refused("14: empty", EMPTY, () -> x.setCue(1, 0));
        c.refused("14: the cue is looked at first", WRONG, () -> x.setCue(1, 4));
        c.refused("14: the deck is looked at first", NO_SUCH, () -> x.setCue(-1, 4));
    }

    private static void loop(Checks c) {
        MixBooth x = Booths.playing();
        x.go(120);
        int[] ends = {3, 4, 6, 10, 18, 34, 66};
        for (int power = 0; power < ends.length; power++) {
            int p = power;
            c.is("15: the beat at its end", ends[power], () -> x.loop(0, p));
        }
        x.jump(0, 36);
        c.is("15: up to the end of the record", 100, () -> x.loop(0, 6));
        x.jump(0, 37);
        c.refused("15: beyond the record", IllegalStateException.class, () -> x.loop(0, 6));
        x.jump(0, 99);
        c.is("15: the last beat", 100, () -> x.loop(0, 0));
        c.refused("15: beyond the record", IllegalStateException.class, () -> x.loop(0, 1));
        c.refused("15: no such power", WRONG, () -> x.loop(0, 7));
        c.refused("15: no such power", WRONG, () -> x.loop(0, -1));
        c.refused("15: no such power", WRONG, () -> x.loop(0, 32));
        c.refused("15: empty", EMPTY, () -> x.loop(1, 0));
        c.refused("15: the power is looked at first", WRONG, () -> x.loop(1, 7));
        c.refused("15: the deck is looked at first", NO_SUCH, () -> x.loop(4, 7));
    }

    private static void loopGoesRound(Checks c) {
        MixBooth x = Booths.playing();
        x.go(120);
        x.loop(0, 1);
        x.go(79);
        c.is("15: ahead of its end", 199 * 1200000, () -> x.place(0));
        x.go(1);
        c.is("15: at its end it is at its beginning", 2 * BEAT, () -> x.place(0));
        x.jump(0, 50);
        c.is("15: a jump beyond it", 50 * BEAT, () -> x.place(0));
        x.go(1);
        c.is("15: its length is taken off as often as need be", 2 * BEAT + 1200000, () -> x.place(0));
        x.jump(0, 0);
        x.go(1);
        c.is("15: ahead of it", 1200000, () -> x.place(0));
        x.jump(0, 99);
        x.loop(0, 0);
        x.go(50);
        c.is("15: a loop at the end of the record", 99 * BEAT, () -> x.place(0));
        c.is("15: holds the deck in the record", true, () -> x.plays(0));
        x.jump(0, 3);
        x.loop(0, 0);
        x.jump(0, 9);
        x.stop(0);
        x.go(3);
        c.is("15: a deck that stands stays beyond it", 9 * BEAT, () -> x.place(0));
    }

    private static void out(Checks c) {
        MixBooth x = Booths.playing();
        c.is("16: none is on", false, () -> x.out(0));
        x.loop(0, 0);
        c.is("16: one was on", true, () -> x.out(0));
        c.is("16: none is on", false, () -> x.out(0));
        x.go(60);
        c.is("16: it goes on", 60 * 1200000, () -> x.place(0));
        c.is("16: an empty deck", false, () -> x.out(3));
        c.refused("16: no such deck", NO_SUCH, () -> x.out(4));
        c.refused("16: no such deck", NO_SUCH, () -> x.out(-1));
        x.loop(0, 0);
        x.loseStick(0);
        c.is("16: a lost stick has no loop", false, () -> x.out(0));
    }

    private static void slip(Checks c) {
        MixBooth x = Booths.playing();
        x.go(10);
        c.is("17: not at first", false, () -> x.slip(0, true));
        x.loop(0, 0);
        x.go(100);
        x.jump(0, 80);
        Booths.perform(x, "Am0c0");
        x.skip(0, 20);
        c.is("17: the deck has jumped", 60 * BEAT, () -> x.place(0));
        c.is("17: it was on", true, () -> x.slip(0, true));
        x.go(10);
        c.is("17: it ends", true, () -> x.slip(0, false));
        c.is("17: as if there had been no loop and no jump", 120 * 1200000, () -> x.place(0));
        c.is("17: off already", false, () -> x.slip(0, false));
        c.is("17: nothing changes", 120 * 1200000, () -> x.place(0));
        x.jump(0, 98);
        x.out(0);
        x.slip(0, true);
        x.loop(0, 0);
        x.go(500);
        x.slip(0, false);
        c.is("17: up to the last place", 100 * BEAT - 1, () -> x.place(0));
        x.out(0);
        x.go(1);
        c.is("17: it stops there", false, () -> x.plays(0));
        x.jump(0, 5);
        x.slip(0, true);
        x.go(5);
        x.jump(0, 9);
        x.slip(0, false);
        c.is("17: a deck that stands", 5 * BEAT, () -> x.place(0));
        c.refused("17: empty", EMPTY, () -> x.slip(1, true));
        c.refused("17: empty", EMPTY, () -> x.slip(1, false));
        c.refused("17: no such deck", NO_SUCH, () -> x.slip(4, true));
        c.refused("17: no such deck", NO_SUCH, () -> x.slip(-1, true));
    }

    private static void placeAndTempo(Checks c) {
        MixBooth x = new MixBooth();
        x.addRecord(2000, 16, 0, 0, 8, 0, 0);
        x.load(2, 0);
        x.setPitch(2, 160);
        c.is("18: at first", 0, () -> x.place(2));
        c.is("19: by its pitch", 2320000, () -> x.tempo(2));
        x.play(2);
        x.nudge(2, 200);
        x.go(1);
        c.is("18: with the nudge", 2552000, () -> x.place(2));
        x.brake(2);
        c.is("19: by its pitch alone", 2320000, () -> x.tempo(2));
        x.play(2);
        x.nudge(2, 0);
        x.go(2000);
        c.is("18: the last place", 16 * BEAT - 1, () -> x.place(2));
        c.is("18: it has stopped", false, () -> x.plays(2));
        c.refused("18: empty", EMPTY, () -> x.place(0));
        c.refused("18: no such deck", NO_SUCH, () -> x.place(4));
        c.refused("18: no such deck", NO_SUCH, () -> x.place(-1));
        c.refused("19: empty", EMPTY, () -> x.tempo(0));
        c.refused("19: no such deck", NO_SUCH, () -> x.tempo(4));
        c.refused("19: no such deck", NO_SUCH, () -> x.tempo(-1));
    }

    private static void playsAndOn(Checks c) {
        MixBooth x = Booths.withOne();
        Booths.plain(x, 16);
        x.load(3, 1);
        x.play(3);
        c.is("20: it does not", false, () -> x.plays(0));
        c.is("20: it does", true, () -> x.plays(3));
        c.is("20: an empty deck", false, () -> x.plays(1));
        c.refused("20: no such deck", NO_SUCH, () -> x.plays(4));
        c.refused("20: no such deck", NO_SUCH, () -> x.plays(-1));
        c.is("21: a record", 0, () -> x.on(0));
        c.is("21: another record", 1, () -> x.on(3));
        c.refused("21: empty", NoSuchElementException.class, () -> x.on(1));
        c.refused("21: no such deck", NO_SUCH, () -> x.on(4));
        c.refused("21: no such deck", NO_SUCH, () -> x.on(-1));
    }
}
