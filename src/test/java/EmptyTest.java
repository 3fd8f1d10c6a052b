import java.util.NoSuchElementException;

/** Empty: no record yet, an empty deck or text, no effect, no loop, no cue, nothing heard, no tick yet. */
public final class EmptyTest {
    private static final Class<IllegalArgumentException> WRONG = IllegalArgumentException.class;
    private static final Class<IndexOutOfBoundsException> NO_SUCH = IndexOutOfBoundsException.class;
    private static final Class<UnsupportedOperationException> EMPTY = UnsupportedOperationException.class;
    private static final Class<NoSuchElementException> NONE = NoSuchElementException.class;

    private EmptyTest() {
    }

    public static void main(String[] args) {
        Checks c = new Checks("EmptyTest");
        newNight(c);
        noRecordYet(c);
        emptyDeck(c);
        emptyDeckTakes(c);
        lostDeckIsEmpty(c);
        firstSettings(c);
        loadedDeck(c);
        emptyText(c);
        noEffect(c);
        noLoop(c);
        cueNotSet(c);
        nothingHeard(c);
        noTickYet(c);
        noCause(c);
        noRow(c);
        nobodyBegins(c);
        c.end();
    }

    private static void newNight(Checks c) {
        MixBooth x = new MixBooth();
        c.is("1: in the tick 0", 0, x::ticks);
        c.is("32: 0 at first", 0, x::heard);
        c.is("33: no silent tick", 0, x::silence);
        c.is("34: no clash of voices", 0, () -> x.clashes('v'));
        c.is("34: no clash of bass", 0, () -> x.clashes('b'));
        c.is("42: no breach", 0, x::breaches);
        for (int group = 0; group < 6; group++) {
            int g = group;
            c.is("38: 20 people at first", 20, () -> x.people(g));
            c.is("39: not tired", 0, () -> x.tired(g));
        }
        c.is("54: no act", 0, x::logged);
        long print = 7;
        long[] numbers = {0, 0, 0, 0, 0, 0, 0, 0, 120, 0};
        for (long number : numbers) {
            print = 31 * print + number;
        }
        long first = print;
        c.is("55: of a new booth", first, x::print);
        c.is("56: of no act", first, x::printAgain);
        c.is("59: a new booth is sound", true, x::isSound);
    }

    private static void noRecordYet(Checks c) {
        MixBooth x = new MixBooth();
        c.refused("3: no record yet", NO_SUCH, () -> x.correct(0, 700));
        c.refused("4: no record yet", NO_SUCH, () -> x.apart(0, 0));
        c.refused("5: no record yet", NO_SUCH, () -> x.ban(0, true));
        c.refused("6: no record yet", NO_SUCH, () -> x.request(0));
        c.refused("7: no record yet", NO_SUCH, () -> x.load(0, 0));
        c.refused("40: no record yet", NO_SUCH, () -> x.seconds(0));
        c.is("2: the first is 0", 0, () -> Booths.plain(x, 16));
        c.is("40: not heard yet", 0, () -> x.seconds(0));
        c.refused("40: there is but one", NO_SUCH, () -> x.seconds(1));
    }

    private static void emptyDeck(Checks c) {
        MixBooth x = new MixBooth();
        Booths.plain(x, 100);
        x.load(1, 0);
        c.refused("8: the deck is empty", EMPTY, () -> x.play(0));
        c.refused("11: the deck is empty", EMPTY, () -> x.nudge(0, 1));
        c.refused("12: the deck is empty", EMPTY, () -> x.brake(0));
        c.refused("13: the deck is empty", EMPTY, () -> x.jump(0, 0));
        c.refused("14: the deck is empty", EMPTY, () -> x.setCue(0, 0));
        c.refused("15: the deck is empty", EMPTY, () -> x.loop(0, 0));
        c.refused("17: the deck is empty, on", EMPTY, () -> x.slip(0, true));
        c.refused("17: the deck is empty, off", EMPTY, () -> x.slip(0, false));
        c.refused("18: the deck is empty", EMPTY, () -> x.place(0));
        c.refused("19: the deck is empty", EMPTY, () -> x.tempo(0));
        c.refused("21: the deck is empty", NONE, () -> x.on(0));
        c.refused("35: one is empty", EMPTY, () -> x.between(0, 1));
        c.refused("35: the other one is empty", EMPTY, () -> x.between(1, 0));
        c.refused("35: the same one, empty", EMPTY, () -> x.between(0, 0));
        c.refused("36: one is empty", EMPTY, () -> x.sync(0, 1));
        c.refused("36: the other one is empty", EMPTY, () -> x.sync(1, 0));
        c.refused("36: the same one, empty", EMPTY, () -> x.sync(0, 0));
        c.refused("37: one is empty", EMPTY, () -> x.ear(0, 1, 1));
        c.refused("37: the other one is empty", EMPTY, () -> x.ear(1, 0, 1));
        c.refused("37: the same one, empty", EMPTY, () -> x.ear(0, 0, 1));
        c.refused("45: the deck is empty", EMPTY, () -> x.next(0, 1));
        c.refused("46: the deck is empty", EMPTY, () -> x.cost(0, 1));
        c.refused("52: the deck is empty", EMPTY, () -> x.skip(0, 1));
        c.refused("53: the deck is empty", EMPTY, () -> x.loseStick(0));
        c.is("54: the record and its load alone", 2, x::logged);
    }

    /** What an empty deck does without a record, it does. */
    private static void emptyDeckTakes(Checks c) {
        MixBooth x = new MixBooth();
        c.is("9: it did not play", false, () -> x.stop(0));
        c.is("10: its pitch", 0, () -> x.setPitch(0, 5));
        c.is("16: no loop was on", false, () -> x.out(0));
        c.is("20: it does not play", false, () -> x.plays(0));
        c.is("22: its fader", 0, () -> x.setFader(0, 100));
        c.is("23: its bands", 100, () -> x.setBand(0, 0, 1));
        c.is("24: its side", 'm', () -> x.setSide(0, 'l'));
        c.is("26: its level", 0, () -> x.level(0));
        c.is("27: an effect", 1, () -> x.addEffect(0, 'e', 100));
        c.is("30: it is silent", 3, () -> x.go(3));
        c.is("29: no loudness, no tail", 0, () -> x.tail(0, 0));
        c.is("28: its effects", 1, () -> x.dropEffects(0));
        Booths.plain(x, 100);
        c.is("7: no record was there", -1, () -> x.load(0, 0));
        c.is("7: with the pitch as it was", 1200 * 1005, () -> x.tempo(0));
    }

    private static void lostDeckIsEmpty(Checks c) {
        MixBooth x = Booths.playing();
        x.go(10);
        x.nudge(0, 100);
        x.slip(0, true);
        x.setCue(0, 0);
        x.loop(0, 2);
        x.loseStick(0);
        c.refused("53: its deck becomes empty", NONE, () -> x.on(0));
        c.refused("53: without a place", EMPTY, () -> x.place(0));
        c.is("53: it does not play", false, () -> x.plays(0));
        c.is("53: it has no loop", false, () -> x.out(0));
        c.is("53: it has no level", 0, () -> x.level(0));
        c.refused("53: it is not lost twice", EMPTY, () -> x.loseStick(0));
        c.is("7: nothing was there", -1, () -> x.load(0, 0));
        c.is("7: at its beginning", 0, () -> x.place(0));
        c.is("7: without nudge", 0, () -> x.nudge(0, 0));
        c.is("7: without slip", false, () -> x.slip(0, true));
        c.refused("7: without cues", EMPTY, () -> Booths.perform(x, "Ac0"));
    }

    private static void firstSettings(Checks c) {
        for (int deck = 0; deck < 4; deck++) {
            int d = deck;
            MixBooth x = new MixBooth();
            c.is("10: 0 at first", 0, () -> x.setPitch(d, 1));
            c.is("22: 0 at first", 0, () -> x.setFader(d, 1));
            c.is("24: m at first", 'm', () -> x.setSide(d, 'r'));
            c.is("28: no effects at first", 0, () -> x.dropEffects(d));
            for (int band = 0; band < 3; band++) {
                int b = band;
                c.is("23: 100 at first", 100, () -> x.setBand(d, b, 1));
            }
        }
        MixBooth x = new MixBooth();
        c.is("25: 0 at first", 0, () -> x.setCross(1));
        for (int index = 0; index < 4; index++) {
            int i = index;
            c.is("41: 1000 at first", 1000, () -> x.setLimit(i, 1));
        }
        c.is("44: the scene is 0 at first", 0, () -> Booths.playing().light());
        Booths.plain(x, 16);
        c.is("5: no record is banned at first", false, () -> x.ban(0, true));
        c.is("6: no record is requested at first", true, () -> x.request(0));
    }

    private static void loadedDeck(Checks c) {
        MixBooth x = Booths.withOne();
        c.is("7: at its beginning", 0, () -> x.place(0));
        c.is("20: it does not play", false, () -> x.plays(0));
        c.is("16: no loop", false, () -> x.out(0));
        c.is("11: no nudge", 0, () -> x.nudge(0, 0));
        c.is("17: no slip", false, () -> x.slip(0, false));
        c.is("12: no brake on a deck that does not play", false, () -> x.brake(0));
        x.play(0);
        x.go(1);
        c.is("12: it goes on unbraked", Booths.STEP, () -> x.place(0));
    }

    private static void emptyText(Checks c) {
        MixBooth x = new MixBooth();
        c.is("48: empty at first", 0, x::wipe);
        c.refused("49: an empty text", WRONG, x::perform);
        c.is("50: has a fault, too", 't', () -> x.cause(0));
        c.is("51: at 0", 0, () -> x.causeNumber(0));
        x.type('A');
        x.wipe();
        c.refused("49: a wiped text", WRONG, x::perform);
        c.is("51: is empty", 0, () -> x.causeNumber(0));
        c.is("49: a deck without moves", 0, () -> Booths.perform(x, "A"));
        c.is("49: the text is empty then", 0, x::wipe);
        c.is("47: the next sign is its first", 1, () -> x.type('A'));
        c.is("54: the text that was done", 1, x::logged);
    }

    private static void noEffect(Checks c) {
        MixBooth x = Booths.playing();
        c.refused("29: no effect", NONE, () -> x.tail(0, 0));
        c.is("28: no effect", 0, () -> x.dropEffects(0));
        x.addEffect(0, 'e', 100);
        x.go(1);
        c.is("29: its tail", 400, () -> x.tail(0, 0));
        x.dropEffects(0);
        c.refused("29: no effect any more", NONE, () -> x.tail(0, 0));
        x.go(1);
        c.is("28: with their tails", 400, x::heard);
        c.is("27: the first one again", 1, () -> x.addEffect(0, 'e', 100));
        c.is("29: without a tail", 0, () -> x.tail(0, 0));
    }

    private static void noLoop(Checks c) {
        MixBooth x = Booths.withOne();
        c.is("16: no loop is on", false, () -> x.out(0));
        c.refused("49: no loop is on", EMPTY, () -> Booths.perform(x, "Ax"));
        c.is("50: no loop is on", 'i', () -> x.cause(1));
        x.loop(0, 0);
        c.is("49: the loop of a call", 1, () -> Booths.perform(x, "Ax"));
        c.is("16: it is off", false, () -> x.out(0));
        x.loop(0, 0);
        x.out(0);
        c.refused("49: no loop is on any more", EMPTY, () -> Booths.perform(x, "Ax"));
        x.loop(0, 0);
        x.load(0, 0);
        c.is("7: without loop", false, () -> x.out(0));
        c.refused("49: without loop", EMPTY, () -> Booths.perform(x, "Ax"));
    }

    private static void cueNotSet(Checks c) {
        for (int cue = 0; cue < 4; cue++) {
            int q = cue;
            MixBooth x = Booths.withOne();
            for (int other = 0; other < 4; other++) {
                if (other != cue) {
                    x.setCue(0, other);
                }
            }
            c.refused("49: the cue is not set", EMPTY, () -> Booths.perform(x, "Ac" + q));
            c.is("50: the cue is not set", 'c', () -> x.cause(1));
            x.setCue(0, q);
            c.is("49: the cue of a call", 1, () -> Booths.perform(x, "Ac" + q));
            x.load(0, 0);
            c.refused("7: without cues", EMPTY, () -> Booths.perform(x, "Ac" + q));
            c.is("50: without cues", 'c', () -> x.cause(1));
        }
    }

    private static void nothingHeard(Checks c) {
        MixBooth x = Booths.withOne();
        c.refused("44: nothing is heard, as nothing plays", NONE, x::light);
        x.setFader(0, 29);
        x.play(0);
        c.refused("44: nothing is heard, at 29", NONE, x::light);
        x.go(100);
        c.is("32: though it sounds", 116, x::heard);
        c.is("38: 1 of each group leaves", 114, () -> x.people(-1));
        c.is("40: it does not count for its record", 0, () -> x.seconds(0));
        x.setFader(0, 30);
        c.is("44: it is heard, at 30", 2, x::light);
    }

    private static void noTickYet(Checks c) {
        MixBooth x = Booths.playing();
        c.refused("57: no tick is gone", ArithmeticException.class, x::silentShare);
        c.refused("58: no tick is gone", ArithmeticException.class, x::meanLoudness);
        Checks.answer(() -> x.go(0));
        c.refused("57: no tick is gone by a refused go", ArithmeticException.class, x::silentShare);
        x.go(1);
        c.is("57: one tick is gone, none is silent", 0.0f, x::silentShare);
        c.is("58: one tick is gone", 400.0, x::meanLoudness);
        MixBooth y = new MixBooth();
        y.go(1);
        c.is("57: one tick is gone, it is silent", 1.0f, y::silentShare);
        c.is("58: one silent tick is gone", 0.0, y::meanLoudness);
    }

    private static void noCause(Checks c) {
        MixBooth x = new MixBooth();
        c.refused("50: no cause at first", NONE, () -> x.cause(0));
        c.refused("51: no cause at first", NONE, () -> x.causeNumber(0));
        Booths.perform(x, "A");
        c.refused("50: none by a text that is done", NONE, () -> x.cause(0));
        Checks.answer(() -> x.play(0));
        c.refused("50: none by a call that is refused", NONE, () -> x.cause(0));
        Checks.answer(() -> Booths.perform(x, "Bb"));
        c.is("50: by a move that is refused", 'm', () -> x.cause(0));
        Checks.answer(() -> Booths.perform(x, "?"));
        c.is("50: by a text that is refused", 't', () -> x.cause(0));
        c.refused("50: a text has no cause below", NONE, () -> x.cause(1));
        c.refused("51: a text has no cause below", NONE, () -> x.causeNumber(1));
    }

    private static void noRow(Checks c) {
        MixBooth x = Booths.withOne();
        for (int depth = 1; depth <= 4; depth++) {
            int d = depth;
            c.refused("45: no record but that of the deck", NONE, () -> x.next(0, d));
            c.refused("46: no record but that of the deck", NONE, () -> x.cost(0, d));
        }
        Booths.plain(x, 16);
        c.is("45: one record", 1, () -> x.next(0, 1));
        c.refused("45: one record makes no row of 2", NONE, () -> x.next(0, 2));
        x.ban(1, true);
        c.refused("45: no record that is not banned", NONE, () -> x.next(0, 1));
        c.is("59: without rows, too", true, x::isSound);
    }

    private static void nobodyBegins(Checks c) {
        MixBooth x = Booths.withOne();
        x.setFader(1, 100);
        x.setFader(2, 100);
        c.is("53: no other deck has a record", -1, () -> x.loseStick(0));
        c.is("30: it is silent then", 10, () -> x.go(10));
    }
}
