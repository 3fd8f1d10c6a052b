import java.util.NoSuchElementException;

/** Promises 47 to 51: moves told by texts, and the causes of their refusal. */
public final class MovesTest {
    private static final Class<IllegalArgumentException> UNREAD = IllegalArgumentException.class;
    private static final Class<UnsupportedOperationException> UNDONE = UnsupportedOperationException.class;
    private static final Class<NoSuchElementException> NO_CAUSE = NoSuchElementException.class;
    private static final long BEAT = 60000000L;

    private MovesTest() {
    }

    public static void main(String[] args) {
        Checks c = new Checks("MovesTest");
        typeAndWipe(c);
        playStopBrake(c);
        cues(c);
        loops(c);
        nudges(c);
        faders(c);
        slips(c);
        decks(c);
        unreadTexts(c);
        readTexts(c);
        undoneMoves(c);
        undoing(c);
        emptyDecks(c);
        causes(c);
        c.end();
    }

    private static void typeAndWipe(Checks c) {
        MixBooth x = Booths.withOne();
        for (int i = 1; i <= 30; i++) {
            int length = i;
            c.is("47: the length", length, () -> x.type('A'));
        }
        c.refused("47: it has 30", IllegalStateException.class, () -> x.type('A'));
        c.is("48: its length before", 30, x::wipe);
        c.is("48: empty", 0, x::wipe);
        c.is("47: any sign", 1, () -> x.type((char) 0));
        c.is("47: any sign", 2, () -> x.type((char) 65535));
        c.is("54: typing is not logged", 2, x::logged);
        x.wipe();
        for (int i = 0; i < 30; i++) {
            x.type(i == 0 ? 'A' : 's');
        }
        c.is("49: a full text", 29, x::perform);
        c.is("49: the text is empty then", 0, x::wipe);
        c.is("54: one act", 3, x::logged);
    }

    private static void playStopBrake(Checks c) {
        MixBooth x = Booths.withOne();
        c.is("49: play", 1, () -> Booths.perform(x, "Ap"));
        c.is("49: it plays", true, () -> x.plays(0));
        c.is("49: play again", 1, () -> Booths.perform(x, "Ap"));
        c.is("49: brake", 1, () -> Booths.perform(x, "Ab"));
        x.go(1);
        c.is("49: it brakes", 600000, () -> x.place(0));
        c.is("49: play takes it off", 1, () -> Booths.perform(x, "Ap"));
        x.go(1);
        c.is("49: it is off", 1800000, () -> x.place(0));
        c.is("49: stop", 1, () -> Booths.perform(x, "As"));
        c.is("49: it stands", false, () -> x.plays(0));
        c.is("49: stop and brake on a deck that stands", 2, () -> Booths.perform(x, "Asb"));
        x.jump(0, 99);
        x.play(0);
        x.go(100);
        c.is("49: play at the last place", 1, () -> Booths.perform(x, "Ap"));
        c.is("49: it does not begin", false, () -> x.plays(0));
    }

    private static void cues(Checks c) {
        MixBooth x = Booths.withOne();
        x.jump(0, 7);
        c.is("49: cues", 3, () -> Booths.perform(x, "Am0m3c3"));
        x.jump(0, 50);
        c.is("49: a jump", 1, () -> Booths.perform(x, "Ac3"));
        c.is("49: there", 7 * BEAT, () -> x.place(0));
        x.jump(0, 99);
        x.play(0);
        x.go(26);
        c.is("49: not behind the last beat", 2, () -> Booths.perform(x, "Am1c1"));
        c.is("49: the last beat", 99 * BEAT, () -> x.place(0));
        c.is("49: it still plays", true, () -> x.plays(0));
    }

    private static void loops(Checks c) {
        MixBooth x = Booths.playing();
        x.go(60);
        c.is("49: a loop", 1, () -> Booths.perform(x, "Al0"));
        x.go(50);
        c.is("49: round it", 60 * 1200000, () -> x.place(0));
        c.is("49: a longer one", 1, () -> Booths.perform(x, "Al2"));
        x.go(240);
        c.is("49: 4 beats", 100 * 1200000, () -> x.place(0));
        c.is("49: out", 1, () -> Booths.perform(x, "Ax"));
        c.is("49: it is off", false, () -> x.out(0));
        c.is("49: the longest", 2, () -> Booths.perform(x, "Al6x"));
    }

    private static void nudges(Checks c) {
        MixBooth x = Booths.withOne();
        Booths.perform(x, "A+3");
        c.is("49: ten times so many", 30, () -> x.nudge(0, 5));
        Booths.perform(x, "A-9");
        c.is("49: slower", -90, () -> x.nudge(0, 5));
        Booths.perform(x, "A+0");
        c.is("49: none", 0, () -> x.nudge(0, 5));
        Booths.perform(x, "A-0");
        c.is("49: none", 0, () -> x.nudge(0, 0));
    }

    private static void faders(Checks c) {
        MixBooth x = new MixBooth();
        for (int digit = 0; digit < 10; digit++) {
            int d = digit;
            c.is("49: fader " + d, 1, () -> Booths.perform(x, "Cf" + d));
            c.is("49: times 11", d * 11, () -> x.setFader(2, 1));
        }
    }

    private static void slips(Checks c) {
        MixBooth x = Booths.playing();
        Booths.perform(x, "Ak");
        x.go(10);
        x.jump(0, 9);
        c.is("49: on and off", 2, () -> Booths.perform(x, "Akk"));
        c.is("49: on", true, () -> x.slip(0, true));
        c.is("49: slip ended and began anew", 12000000, () -> x.place(0));
        x.jump(0, 3);
        Booths.perform(x, "Ak");
        c.is("49: off", false, () -> x.slip(0, false));
        c.is("49: back", 12000000, () -> x.place(0));
        Booths.perform(x, "Ak");
        x.jump(0, 99);
        c.is("49: a loop from where slip ends", 2, () -> Booths.perform(x, "Akl6"));
        Booths.perform(x, "Ax");
        x.jump(0, 99);
        Booths.perform(x, "Ak");
        x.jump(0, 0);
        undone(c, x, "Al6kl1", 4, 'l', 0);
    }

    private static void decks(Checks c) {
        MixBooth x = Booths.withOne();
        for (int deck = 1; deck < 4; deck++) {
            x.load(deck, 0);
        }
        c.is("49: several decks", 7, () -> Booths.perform(x, "Af1pBf2C+1Df4pAb"));
        int[] faders = {11, 22, 0, 44};
        boolean[] plays = {true, false, false, true};
        for (int deck = 0; deck < 4; deck++) {
            int d = deck;
            c.is("49: plays", plays[d], () -> x.plays(d));
            c.is("49: fader", faders[d], () -> x.setFader(d, 0));
        }
        c.is("49: the deck that was told", 10, () -> x.nudge(2, 0));
        c.is("49: a deck without moves", 0, () -> Booths.perform(x, "B"));
        c.is("49: decks without moves", 1, () -> Booths.perform(x, "ABsCD"));
    }

    private static void unreadTexts(Checks c) {
        Object[][] faults = {{"", 0}, {"p", 0}, {"E", 0}, {"a", 0}, {"1", 0}, {"@", 0}, {"+3A", 0}, {"Aq", 1},
            {"A3", 1}, {"Ac", 2}, {"Ac4", 2}, {"Am4", 2}, {"Acp", 2}, {"Al7", 2}, {"Al", 2}, {"A+", 2}, {"A-:", 2},
            {"A+/", 2}, {"Af", 2}, {"AfA", 2}, {"Ap ", 2}, {"ApE", 2}, {"Ac12", 3}, {"Apsbkxm", 7}, {"ABCDE", 4},
            {"Acq", 2}, {"Af1f2f3x+", 9}, {"A\u00e9", 1}, {"Ac0z", 3}, {"Ac ", 2}, {"A\u4e00", 1}};
        for (Object[] fault : faults) {
            MixBooth x = Booths.withOne();
            String text = (String) fault[0];
            c.refused("49: " + text, UNREAD, () -> Booths.perform(x, text));
            c.is("50: " + text, 't', () -> x.cause(0));
            c.is("51: " + text, fault[1], () -> x.causeNumber(0));
            c.refused("50: no more causes", NO_CAUSE, () -> x.cause(1));
            c.refused("51: no more causes", NO_CAUSE, () -> x.causeNumber(1));
            c.is("49: the text stays", text.length(), x::wipe);
            c.is("54: not logged", 2, x::logged);
        }
    }

    private static void readTexts(Checks c) {
        String[] texts = {"A", "DCBA", "Ac3m3l6+9-9f9", "Ac0m0l0+0-0f0", "AAAp", "ApBBs"};
        for (String text : texts) {
            MixBooth x = new MixBooth();
            String answer = Checks.answer(() -> Booths.perform(x, text));
            c.is("49: " + text + " can be read", false, () -> answer.contains("IllegalArgument"));
        }
    }

    private static void undone(Checks c, MixBooth x, String text, int place, char cause, int deck) {
        long print = x.print();
        int logged = x.logged();
        c.refused("49: " + text, UNDONE, () -> Booths.perform(x, text));
        c.is("50: " + text, 'm', () -> x.cause(0));
        c.is("51: " + text, place, () -> x.causeNumber(0));
        c.is("50: below, " + text, cause, () -> x.cause(1));
        c.is("51: below, " + text, deck, () -> x.causeNumber(1));
        c.refused("50: no more, " + text, NO_CAUSE, () -> x.cause(2));
        c.refused("51: no more, " + text, NO_CAUSE, () -> x.causeNumber(2));
        c.is("49: nothing has changed, " + text, print, x::print);
        c.is("54: not logged, " + text, logged, x::logged);
        c.is("49: the text stays, " + text, text.length(), x::wipe);
    }

    private static void undoneMoves(Checks c) {
        MixBooth x = Booths.withOne();
        x.load(3, 0);
        undone(c, x, "Ac0", 1, 'c', 0);
        undone(c, x, "Am0c0c1", 5, 'c', 0);
        undone(c, x, "ADppm2c3", 6, 'c', 3);
        undone(c, x, "Ax", 1, 'i', 0);
        undone(c, x, "Al0xx", 4, 'i', 0);
        undone(c, x, "BsAx", 3, 'i', 0);
        x.jump(0, 99);
        undone(c, x, "Al0l1", 3, 'l', 0);
        undone(c, x, "Dl6Al6", 4, 'l', 0);
        undone(c, x, "Al6x", 1, 'l', 0);
        undone(c, x, "AsBp", 3, 'e', 1);
    }

    private static void undoing(Checks c) {
        MixBooth x = Booths.playing();
        x.go(60);
        x.setCue(0, 0);
        x.nudge(0, 44);
        long place = x.place(0);
        undone(c, x, "Asm1f2+3kl0Bp", 12, 'e', 1);
        c.is("49: it plays", true, () -> x.plays(0));
        c.is("49: the fader is as before", 100, () -> x.level(0));
        c.is("49: the nudge is as before", 44, () -> x.nudge(0, 0));
        c.is("49: slip is as before", false, () -> x.slip(0, false));
        c.is("49: no loop", false, () -> x.out(0));
        undone(c, x, "Ac1", 1, 'c', 0);
        undone(c, x, "Abc2", 2, 'c', 0);
        x.go(1);
        c.is("49: no brake", place + 1200000, () -> x.place(0));
        x.brake(0);
        undone(c, x, "ApBk", 3, 'e', 1);
        x.go(1);
        c.is("49: the brake is as before", place + 1200000 + 600000, () -> x.place(0));
        x.play(0);
        x.loop(0, 0);
        x.slip(0, true);
        x.go(50);
        long looped = x.place(0);
        undone(c, x, "Axkc0m0l1c3", 9, 'c', 0);
        c.is("49: the place is as before", looped, () -> x.place(0));
        c.is("49: the loop is as before", true, () -> x.out(0));
        c.is("49: slip is as before", true, () -> x.slip(0, false));
        c.is("49: the second place is as before", looped + BEAT, () -> x.place(0));
        Booths.perform(x, "Ac0");
        c.is("49: the cue is as before", BEAT, () -> x.place(0));
    }

    private static void emptyDecks(Checks c) {
        String[] moves = {"p", "b", "c0", "m0", "l0", "+1", "-1", "k"};
        for (String move : moves) {
            undone(c, new MixBooth(), "D" + move, 1, 'e', 3);
        }
        undone(c, new MixBooth(), "Ax", 1, 'i', 0);
        undone(c, new MixBooth(), "ADsx", 3, 'i', 3);
        MixBooth lost = Booths.withOne();
        lost.loop(0, 0);
        lost.loseStick(0);
        undone(c, lost, "Ax", 1, 'i', 0);
        MixBooth x = new MixBooth();
        c.is("49: s and f can always be done", 2, () -> Booths.perform(x, "Bsf5"));
        c.is("49: the fader of an empty deck", 55, () -> x.setFader(1, 0));
    }

    private static void causes(Checks c) {
        MixBooth x = new MixBooth();
        c.refused("50: none at first", NO_CAUSE, () -> x.cause(0));
        c.refused("51: none at first", NO_CAUSE, () -> x.causeNumber(0));
        c.refused("49: empty", UNREAD, x::perform);
        c.is("51: at 0", 0, () -> x.causeNumber(0));
        c.refused("50: below 0", NO_CAUSE, () -> x.cause(-1));
        c.refused("51: below 0", NO_CAUSE, () -> x.causeNumber(-1));
        c.refused("49: a move", UNDONE, () -> Booths.perform(x, "CBp"));
        c.is("50: the last refusal", 'm', () -> x.cause(0));
        c.is("51: the deck", 1, () -> x.causeNumber(1));
        c.is("49: done", 1, () -> Booths.perform(x, "Bs"));
        c.is("50: the last refusal, still", 'm', () -> x.cause(0));
        c.refused("8: another refusal", UNDONE, () -> x.play(0));
        c.is("50: is none of moves", 2, () -> x.causeNumber(0));
        c.refused("49: unread", UNREAD, () -> Booths.perform(x, "B?"));
        c.is("50: the text", 't', () -> x.cause(0));
        c.refused("50: nothing below it", NO_CAUSE, () -> x.cause(1));
    }
}
