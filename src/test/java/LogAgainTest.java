/** Promise 56: each kind of act, and each of its numbers, is done again as it was done. */
public final class LogAgainTest {
    private interface Act {
        void on(MixBooth x);
    }

    private final Checks checks;

    private LogAgainTest(Checks checks) {
        this.checks = checks;
    }

    public static void main(String[] args) {
        Checks c = new Checks("LogAgainTest");
        LogAgainTest test = new LogAgainTest(c);
        test.records();
        test.bans();
        test.decks();
        test.slips();
        test.mixer();
        test.effects();
        test.night();
        test.locking();
        test.texts();
        test.faults();
        unseenActs(c);
        askedInBetween(c);
        c.end();
    }

    /**
     * Two nights that differ in one act alone, and by it in their prints: each of them must be mixed again as it
     * was, so an act that is left out, or done with another number, would show.
     */
    private void differ(String what, Act before, Act one, Act other, Act behind) {
        MixBooth x = night(before, one, behind);
        MixBooth y = night(before, other, behind);
        checks.is("55: " + what + " makes another night", true, () -> x.print() != y.print());
        checks.is("56: with " + what, x.print(), x::printAgain);
        checks.is("56: with another one than " + what, y.print(), y::printAgain);
        checks.is("59: with " + what, true, x::isSound);
    }

    private static MixBooth night(Act before, Act act, Act behind) {
        MixBooth x = new MixBooth();
        before.on(x);
        act.on(x);
        behind.on(x);
        return x;
    }

    private static void nothing(MixBooth x) {
        x.people(-1);
    }

    /** Two decks that play and are heard; group 0 likes both, and both have voices and bass. */
    private static void two(MixBooth x) {
        for (int deck = 0; deck < 2; deck++) {
            x.addRecord(1200, 200, 0, 3, 8, 65535, 0);
            x.load(deck, deck);
            x.setFader(deck, 100);
            x.play(deck);
        }
        x.go(7);
    }

    private static void second(MixBooth x) {
        x.go(100);
    }

    private static void half(MixBooth x) {
        x.go(50);
    }

    private static void playTwice(MixBooth x) {
        for (int deck = 0; deck < 2; deck++) {
            x.load(deck, 0);
            x.setFader(deck, 100);
            x.play(deck);
        }
        x.jump(0, 15);
        x.jump(1, 15);
        x.setLimit(0, 900);
        x.go(140);
    }

    private void records() {
        Act base = x -> x.addRecord(1200, 50, 0, 3, 8, 6, 9);
        Act none = LogAgainTest::nothing;
        Act play = LogAgainTest::playTwice;
        differ("a tempo", none, base, x -> x.addRecord(1201, 50, 0, 3, 8, 6, 9), play);
        differ("beats", none, base, x -> x.addRecord(1200, 16, 0, 3, 8, 6, 9), play);
        differ("a key", none, base, x -> x.addRecord(1200, 50, 6, 3, 8, 6, 9), play);
        differ("an energy", none, base, x -> x.addRecord(1200, 50, 0, 9, 8, 6, 9), play);
        differ("phrases", none, base, x -> x.addRecord(1200, 50, 0, 3, 32, 6, 9), play);
        differ("voices", none, base, x -> x.addRecord(1200, 50, 0, 3, 8, 0, 9), play);
        differ("quiet phrases", none, base, x -> x.addRecord(1200, 50, 0, 3, 8, 6, 65535), play);
        differ("a correction", base, x -> x.correct(0, 1300), LogAgainTest::nothing, play);
        differ("another correction", base, x -> x.correct(0, 1300), x -> x.correct(0, 1301), play);
        differ("the record of a correction", x -> {
            base.on(x);
            base.on(x);
        }, x -> x.correct(0, 1300), x -> x.correct(1, 1300), play);
    }

    private void bans() {
        differ("a ban", LogAgainTest::two, x -> x.ban(1, true), LogAgainTest::nothing, LogAgainTest::second);
        differ("a ban of another record", x -> {
            two(x);
            x.setFader(0, 0);
        }, x -> x.ban(1, true), x -> x.ban(0, true), LogAgainTest::second);
        differ("a ban that is lifted", x -> {
            two(x);
            x.ban(1, true);
        }, x -> x.ban(1, false), x -> x.ban(1, true), LogAgainTest::second);
    }

    private void decks() {
        Act two = LogAgainTest::two;
        Act none = LogAgainTest::nothing;
        Act half = LogAgainTest::half;
        differ("a load", x -> {
            two(x);
            x.addRecord(700, 16, 0, 0, 8, 0, 0);
        }, x -> x.load(2, 2), x -> x.load(2, 1), x -> {
            x.play(2);
            x.go(50);
        });
        differ("the deck of a load", two, x -> x.load(2, 1), x -> x.load(3, 1), x -> {
            Checks.answer(() -> x.play(2));
            Checks.answer(() -> x.play(3));
            x.go(50);
        });
        differ("play", x -> {
            two(x);
            x.stop(1);
        }, x -> x.play(1), none, half);
        differ("a brake that is taken off", x -> {
            two(x);
            x.brake(1);
        }, x -> x.play(1), none, half);
        differ("stop", two, x -> x.stop(1), none, half);
        differ("the deck of a stop", two, x -> x.stop(1), x -> x.stop(0), half);
        differ("a pitch", two, x -> x.setPitch(1, -160), x -> x.setPitch(1, 160), half);
        differ("a nudge", two, x -> x.nudge(1, 20), none, half);
        differ("a slow nudge", two, x -> x.nudge(1, -20), x -> x.nudge(1, 20), half);
        differ("a shorter nudge", two, x -> x.nudge(1, 20), x -> x.nudge(1, 19), half);
        differ("a brake", two, x -> x.brake(1), none, half);
        differ("a jump", two, x -> x.jump(1, 50), x -> x.jump(1, 51), half);
        differ("a cue", x -> {
            two(x);
            x.setCue(0, 1);
            x.setCue(0, 2);
            x.jump(0, 9);
        }, x -> x.setCue(0, 1), x -> x.setCue(0, 2), x -> Booths.perform(x, "Ac1"));
        differ("a loop", two, x -> x.loop(1, 0), none, x -> x.go(380));
        differ("a longer loop", two, x -> x.loop(1, 0), x -> x.loop(1, 1), x -> x.go(380));
        differ("out of a loop", x -> {
            two(x);
            x.loop(1, 0);
        }, x -> x.out(1), none, half);
    }

    private void slips() {
        differ("slip on", LogAgainTest::two, x -> x.slip(1, true), x -> x.slip(1, false), x -> {
            x.jump(1, 40);
            x.go(9);
            x.slip(1, false);
        });
        differ("slip off", x -> {
            two(x);
            x.slip(1, true);
            x.jump(1, 40);
        }, x -> x.slip(1, false), x -> x.slip(1, true), LogAgainTest::half);
    }

    private void mixer() {
        Act two = LogAgainTest::two;
        Act half = LogAgainTest::half;
        differ("a fader", two, x -> x.setFader(1, 29), x -> x.setFader(1, 30), half);
        differ("the deck of a fader", x -> {
            two(x);
            x.ban(0, true);
        }, x -> x.setFader(1, 0), x -> x.setFader(0, 0), LogAgainTest::second);
        differ("a band", two, x -> x.setBand(1, 0, 49), x -> x.setBand(1, 0, 50), half);
        differ("the low band", two, x -> x.setBand(1, 0, 0), x -> x.setBand(1, 2, 0), half);
        differ("a side", x -> {
            two(x);
            x.setCross(80);
        }, x -> x.setSide(1, 'l'), x -> x.setSide(1, 'r'), half);
        differ("a side that is m again", x -> {
            two(x);
            x.setCross(80);
            x.setSide(1, 'l');
        }, x -> x.setSide(1, 'm'), LogAgainTest::nothing, half);
        differ("the crossfader", x -> {
            two(x);
            x.setSide(1, 'l');
        }, x -> x.setCross(70), x -> x.setCross(71), half);
    }

    private void effects() {
        Act still = x -> {
            two(x);
            x.go(13);
            x.stop(0);
            x.stop(1);
        };
        Act tails = x -> {
            two(x);
            x.setFader(0, 0);
        };
        Act fade = x -> {
            x.go(30);
            x.stop(1);
            x.go(200);
        };
        differ("an echo", tails, x -> x.addEffect(1, 'e', 100), LogAgainTest::nothing, fade);
        differ("a reverb", tails, x -> x.addEffect(1, 'r', 100), x -> x.addEffect(1, 'e', 100), fade);
        differ("a chop", tails, x -> x.addEffect(1, 'c', 100), LogAgainTest::nothing, fade);
        differ("a strength", tails, x -> x.addEffect(1, 'e', 100), x -> x.addEffect(1, 'e', 10), fade);
        differ("effects that are dropped", x -> {
            tails.on(x);
            x.addEffect(1, 'r', 100);
        }, x -> x.dropEffects(1), x -> x.dropEffects(0), fade);
        differ("effects that are dropped while they fade", x -> {
            still.on(x);
            x.addEffect(1, 'r', 100);
            x.play(1);
            x.go(5);
            x.stop(1);
        }, x -> x.dropEffects(1), LogAgainTest::nothing, LogAgainTest::half);
    }

    private void night() {
        differ("ticks", LogAgainTest::two, x -> x.go(1), x -> x.go(2), LogAgainTest::nothing);
        differ("a limit", x -> {
            two(x);
            x.setLimit(0, 2000);
        }, x -> x.setLimit(0, 799), x -> x.setLimit(0, 800), LogAgainTest::second);
        differ("the number of a limit", LogAgainTest::two, x -> x.setLimit(0, 5), x -> x.setLimit(1, 5),
                LogAgainTest::second);
    }

    private void locking() {
        Act three = x -> {
            two(x);
            x.addRecord(1300, 99, 0, 0, 8, 0, 0);
            x.load(2, 2);
            x.play(2);
            x.go(33);
        };
        differ("sync", three, x -> x.sync(1, 2), LogAgainTest::nothing, LogAgainTest::half);
        differ("the other deck of sync", three, x -> x.sync(1, 2), x -> x.sync(1, 0), LogAgainTest::half);
        differ("ear", three, x -> x.ear(1, 2, 4), LogAgainTest::nothing, LogAgainTest::half);
        differ("the rounds of ear", three, x -> x.ear(1, 2, 2), x -> x.ear(1, 2, 3), LogAgainTest::half);
        differ("the other deck of ear", three, x -> x.ear(2, 1, 2), x -> x.ear(2, 1, 1), LogAgainTest::half);
    }

    private void texts() {
        String[] moves = {"s", "b", "m1c1", "l0", "+5", "-5", "f2", "f3s", "kl0", "f0"};
        for (String move : moves) {
            differ("the move " + move, LogAgainTest::two, x -> Booths.perform(x, "B" + move), LogAgainTest::nothing,
                    x -> x.go(180));
        }
        differ("the move p", x -> {
            two(x);
            x.brake(1);
        }, x -> Booths.perform(x, "Bp"), LogAgainTest::nothing, LogAgainTest::half);
        differ("the move x", x -> {
            two(x);
            x.loop(1, 0);
        }, x -> Booths.perform(x, "Bx"), LogAgainTest::nothing, LogAgainTest::half);
        differ("the move k", x -> {
            two(x);
            x.slip(1, true);
            x.jump(1, 33);
        }, x -> Booths.perform(x, "Bk"), LogAgainTest::nothing, LogAgainTest::half);
        differ("the deck of a move", LogAgainTest::two, x -> Booths.perform(x, "BAs"), x -> Booths.perform(x, "ABs"),
                LogAgainTest::half);
        differ("a text behind another one", x -> {
            two(x);
            Booths.perform(x, "A+1B-1");
            x.wipe();
            x.type('A');
            x.type('?');
            Checks.answer(x::perform);
        }, x -> Booths.perform(x, "As"), x -> Booths.perform(x, "Bs"), x -> {
            Booths.perform(x, "CDAf5");
            x.go(50);
        });
    }

    private void faults() {
        differ("a needle", x -> {
            two(x);
            x.jump(1, 100);
        }, x -> x.skip(1, 32), x -> x.skip(1, 31), LogAgainTest::half);
        differ("a stick", LogAgainTest::two, x -> x.loseStick(1), x -> x.stop(1), LogAgainTest::half);
        differ("a deck that begins by it", x -> {
            two(x);
            x.load(3, 1);
            x.setFader(3, 30);
            x.stop(0);
            x.setFader(0, 0);
        }, x -> x.loseStick(1), LogAgainTest::nothing, LogAgainTest::half);
    }

    /** A request, a strobe and a scene are not seen in the print, but they are acts. */
    private static void unseenActs(Checks c) {
        MixBooth x = new MixBooth();
        two(x);
        int logged = x.logged();
        x.request(1);
        x.request(1);
        x.strobe(3, 4);
        x.setCue(0, 3);
        x.ban(0, false);
        x.correct(x.addRecord(600, 16, 0, 0, 8, 0, 0), 600);
        c.is("54: all of them are acts", logged + 7, x::logged);
        c.is("56: with all of them", x.print(), x::printAgain);
        half(x);
        c.is("56: and what comes then", x.print(), x::printAgain);
    }

    /** A print that is asked for in between changes neither the night nor its log. */
    private static void askedInBetween(Checks c) {
        MixBooth x = new MixBooth();
        MixBooth y = new MixBooth();
        two(x);
        two(y);
        for (int i = 0; i < 30; i++) {
            int due = i;
            x.nudge(0, i);
            y.nudge(0, i);
            x.go(1 + i);
            y.go(1 + i);
            c.is("56: at " + due, x.print(), x::printAgain);
            c.is("59: at " + due, true, x::isSound);
        }
        c.is("55: the night is the same", y.print(), x::print);
        c.is("54: and the log", y.logged(), x::logged);
        c.is("56: mixed again at the end alone", y.print(), y::printAgain);
    }
}
