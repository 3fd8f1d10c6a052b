/** Promises 52 to 59: faults, the log, prints and figures. */
public final class FaultsAndLogTest {
    private static final Class<IllegalArgumentException> WRONG = IllegalArgumentException.class;
    private static final Class<IndexOutOfBoundsException> NO_SUCH = IndexOutOfBoundsException.class;
    private static final Class<UnsupportedOperationException> EMPTY = UnsupportedOperationException.class;
    private static final Class<ArithmeticException> NO_TICK = ArithmeticException.class;
    private static final long BEAT = 60000000L;

    private FaultsAndLogTest() {
    }

    public static void main(String[] args) {
        Checks c = new Checks("FaultsAndLogTest");
        skip(c);
        loseStick(c);
        loseStickWhileHeard(c);
        logged(c);
        print(c);
        printAgain(c);
        figures(c);
        fullNight(c);
        c.end();
    }

    private static void skip(Checks c) {
        MixBooth x = Booths.playing();
        x.go(2000);
        c.is("52: the place then", 8 * BEAT, () -> x.skip(0, 32));
        c.is("52: there it is", 8 * BEAT, () -> x.place(0));
        c.is("52: one beat", 7 * BEAT, () -> x.skip(0, 1));
        c.is("52: 0 at least", 0, () -> x.skip(0, 8));
        c.is("52: still 0", 0, () -> x.skip(0, 1));
        c.is("52: it plays on", true, () -> x.plays(0));
        c.refused("52: below", WRONG, () -> x.skip(0, 0));
        c.refused("52: above", WRONG, () -> x.skip(0, 33));
        c.refused("52: empty", EMPTY, () -> x.skip(1, 1));
        c.refused("52: the number is looked at first", WRONG, () -> x.skip(1, 33));
        c.refused("52: the deck is looked at first", NO_SUCH, () -> x.skip(4, 33));
        c.refused("52: no such deck", NO_SUCH, () -> x.skip(-1, 1));
    }

    private static void loseStick(Checks c) {
        MixBooth x = new MixBooth();
        Booths.plain(x, 16);
        Booths.plain(x, 16);
        x.load(3, 0);
        x.setPitch(3, 9);
        c.is("53: no other deck", -1, () -> x.loseStick(3));
        c.refused("53: it is empty then", java.util.NoSuchElementException.class, () -> x.on(3));
        c.refused("53: it has no place", EMPTY, () -> x.place(3));
        c.refused("53: empty", EMPTY, () -> x.loseStick(3));
        c.refused("53: no such deck", NO_SUCH, () -> x.loseStick(4));
        c.refused("53: no such deck", NO_SUCH, () -> x.loseStick(-1));
        c.is("53: the pitch stays", 9, () -> x.setPitch(3, 0));
        x.load(0, 0);
        x.load(1, 1);
        x.load(2, 1);
        x.setFader(0, 29);
        x.setFader(1, 29);
        c.is("53: a fader below 30", -1, () -> x.loseStick(2));
        x.load(2, 1);
        x.setFader(1, 30);
        c.is("53: not the one that is lost", 1, () -> x.loseStick(0));
        c.is("53: it plays", true, () -> x.plays(1));
        x.setFader(2, 100);
        x.load(0, 0);
        x.setCross(100);
        x.setSide(1, 'l');
        c.is("53: the next one, as the first is not heard", 2, () -> x.loseStick(0));
        x.jump(1, 15);
        x.jump(2, 15);
        x.go(100);
        c.is("53: both are at their end", false, () -> x.plays(1) || x.plays(2));
        x.load(0, 0);
        x.setFader(3, 100);
        c.is("53: none at its last place, none that is empty", -1, () -> x.loseStick(0));
        x.jump(2, 15);
        x.load(0, 0);
        c.is("53: not at its last place any more", 2, () -> x.loseStick(0));
        x.load(0, 0);
        x.setFader(2, 10);
        x.brake(2);
        long place = x.place(2);
        c.is("53: a deck that plays does not begin", -1, () -> x.loseStick(0));
        x.go(1);
        c.is("53: and brakes on", place + 600000, () -> x.place(2));
    }

    private static void loseStickWhileHeard(Checks c) {
        MixBooth x = Booths.playing();
        x.load(1, 0);
        x.load(2, 0);
        x.setFader(1, 50);
        c.is("53: something is heard", -1, () -> x.loseStick(2));
        c.is("53: nobody begins", false, () -> x.plays(1));
        x.setFader(0, 29);
        x.load(2, 0);
        c.is("53: a level of 29 is not heard", 1, () -> x.loseStick(2));
        MixBooth y = Booths.playing();
        y.addEffect(0, 'e', 100);
        y.load(3, 0);
        y.setFader(3, 100);
        y.go(10);
        c.is("53: a tail is no deck that is heard", 3, () -> y.loseStick(0));
        c.is("26: the lost deck", 0, () -> y.level(0));
    }

    private static void logged(Checks c) {
        MixBooth x = new MixBooth();
        Booths.plain(x, 99);
        Booths.plain(x, 99);
        x.correct(1, 1300);
        x.ban(0, false);
        x.request(0);
        x.load(0, 0);
        x.load(1, 1);
        c.is("54: records and loads", 7, x::logged);
        x.play(0);
        x.play(0);
        x.stop(1);
        x.setPitch(0, 0);
        x.nudge(0, 0);
        x.brake(1);
        x.jump(0, 0);
        x.setCue(0, 0);
        x.loop(0, 0);
        x.out(1);
        x.slip(0, false);
        c.is("54: decks", 18, x::logged);
        x.setFader(0, 0);
        x.setBand(0, 0, 100);
        x.setSide(0, 'm');
        x.setCross(0);
        x.addEffect(0, 'e', 0);
        x.dropEffects(1);
        c.is("54: the mixer", 24, x::logged);
        x.go(1);
        x.sync(0, 1);
        x.ear(0, 1, 1);
        x.setLimit(0, 1000);
        x.strobe(1, 0);
        x.skip(0, 1);
        x.loseStick(1);
        Booths.perform(x, "A");
        c.is("54: the night", 32, x::logged);
        questions(x);
        c.is("54: questions, typing and wiping are no acts", 32, x::logged);
        c.is("56: all of them again", x.print(), x::printAgain);
        c.is("59: sound", true, x::isSound);
    }

    private static void questions(MixBooth x) {
        x.apart(0, 1);
        x.place(0);
        x.tempo(0);
        x.plays(0);
        x.on(0);
        x.level(0);
        x.ticks();
        x.heard();
        x.silence();
        x.clashes('v');
        x.between(0, 0);
        x.people(0);
        x.tired(0);
        x.seconds(0);
        x.breaches();
        x.next(0, 1);
        x.cost(0, 1);
        x.type('A');
        x.wipe();
        x.logged();
        x.print();
        x.printAgain();
        x.silentShare();
        x.meanLoudness();
        x.isSound();
        Checks.answer(x::light);
        Checks.answer(() -> x.tail(0, 0));
        Checks.answer(() -> x.cause(0));
        Checks.answer(() -> x.causeNumber(0));
        Checks.answer(() -> x.go(0));
        Checks.answer(x::perform);
    }

    private static long print(long... numbers) {
        long print = 7;
        for (long number : numbers) {
            print = print * 31 + number;
        }
        return print;
    }

    private static void print(Checks c) {
        MixBooth x = new MixBooth();
        c.is("55: at first", print(0, 0, 0, 0, 0, 0, 0, 0, 120, 0), x::print);
        c.is("56: at first", print(0, 0, 0, 0, 0, 0, 0, 0, 120, 0), x::printAgain);
        x.addRecord(1200, 99, 0, 9, 8, 65535, 0);
        x.load(1, 0);
        x.load(3, 0);
        x.jump(3, 97);
        x.setLimit(0, 2000);
        x.go(2);
        x.setFader(1, 100);
        x.setFader(3, 99);
        x.play(1);
        x.play(3);
        x.setBand(1, 0, 49);
        x.go(3);
        x.setBand(1, 0, 50);
        x.go(95);
        x.setLimit(0, 0);
        x.go(100);
        long first = 198 * 1200000;
        c.is("55: the first one's place", first, () -> x.place(1));
        c.is("55: all numbers", print(0, first, 0, 99 * BEAT - 1, 200, 2, 99, 96, x.people(-1), 1), x::print);
        c.is("55: clashes of voices", 99, () -> x.clashes('v'));
        c.is("55: clashes of bass", 96, () -> x.clashes('b'));
        c.is("55: breaches", 1, x::breaches);
        c.is("56: the same again", x.print(), x::printAgain);
        x.loseStick(1);
        c.is("55: 0 if it is empty", print(0, 0, 0, 99 * BEAT - 1, 200, 2, 99, 96, x.people(-1), 1), x::print);
    }

    private static void printAgain(Checks c) {
        MixBooth x = Booths.playing();
        x.addRecord(1111, 200, 13, 8, 16, 21845, 3);
        x.load(1, 1);
        x.setFader(1, 90);
        x.setSide(1, 'r');
        x.setCross(-30);
        x.setPitch(1, -77);
        x.addEffect(1, 'r', 80);
        Booths.perform(x, "A+5Bpm1l2");
        x.go(777);
        c.is("56: a first time", x.print(), x::printAgain);
        Booths.perform(x, "BxAkAl0");
        x.go(123);
        x.brake(0);
        x.ear(1, 0, 4);
        x.go(60);
        x.sync(0, 1);
        Checks.answer(() -> Booths.perform(x, "Apx"));
        Checks.answer(() -> Booths.perform(x, "Bxx"));
        x.wipe();
        c.is("56: a second time", x.print(), x::printAgain);
        c.is("56: and again", x.print(), x::printAgain);
        c.is("59: sound", true, x::isSound);
        x.go(100);
        c.is("59: sound, with new acts", true, x::isSound);
        c.is("56: nothing was done twice", x.print(), x::printAgain);
    }

    private static void figures(Checks c) {
        MixBooth x = new MixBooth();
        c.refused("57: no tick", NO_TICK, x::silentShare);
        c.refused("58: no tick", NO_TICK, x::meanLoudness);
        Booths.plain(x, 99);
        x.load(0, 0);
        x.go(1);
        c.is("57: all silent", 1.0f, x::silentShare);
        c.is("58: nothing", 0.0, x::meanLoudness);
        x.setFader(0, 100);
        x.play(0);
        x.go(2);
        c.is("57: a third", 1.0f / 3.0f, x::silentShare);
        c.is("58: two thirds", 800.0 / 3.0, x::meanLoudness);
        x.setFader(0, 1);
        x.go(4);
        c.is("57: a seventh", 1.0f / 7.0f, x::silentShare);
        c.is("58: the sum", 816.0 / 7.0, x::meanLoudness);
        c.is("59: sound", true, x::isSound);
    }

    private static void fullNight(Checks c) {
        MixBooth x = Booths.playing();
        x.loop(0, 6);
        for (int i = 0; i < 250; i++) {
            x.go(2000);
            x.play(0);
        }
        c.is("54: 505 acts", 505, x::logged);
        c.is("31: half a million ticks", 500000, x::ticks);
        c.is("59: sound after a long night", true, x::isSound);
        for (int i = 0; i < 2000; i++) {
            Checks.answer(() -> x.setCross(1));
            String text = Checks.answer(() -> Booths.perform(x, "Asp"));
            if (text.contains("Array") || text.contains("NullPointer")) {
                c.is("no machine's exception, ever", "", () -> text);
            }
        }
        c.is("behind all calls it still answers", false, () -> Checks.answer(x::isSound).contains("throws"));
    }
}
