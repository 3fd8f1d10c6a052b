import java.util.ArrayList;
import java.util.List;
import java.util.NoSuchElementException;

/** Refused calls: each exception that a promise names, the one documented first, and nothing that has changed. */
public final class RefusedTest {
    private static final Class<IllegalArgumentException> WRONG = IllegalArgumentException.class;
    private static final Class<IndexOutOfBoundsException> NO_SUCH = IndexOutOfBoundsException.class;
    private static final Class<UnsupportedOperationException> CANNOT = UnsupportedOperationException.class;
    private static final Class<IllegalStateException> STATE = IllegalStateException.class;
    private static final Class<NoSuchElementException> NONE = NoSuchElementException.class;

    private interface Call {
        Object make(MixBooth x);
    }

    private final Checks checks;
    private final String untouched;

    private RefusedTest(Checks checks) {
        this.checks = checks;
        untouched = tell(fullBooth(), true);
    }

    public static void main(String[] args) {
        Checks c = new Checks("RefusedTest");
        RefusedTest test = new RefusedTest(c);
        test.records();
        test.loadsAndDecks();
        test.cuesAndLoops();
        test.mixer();
        test.night();
        test.locking();
        test.search();
        test.texts();
        test.faults();
        figures(c);
        refusedMoves(c);
        refusedTexts(c);
        sameRefusalTwice(c);
        c.end();
    }

    /**
     * As much as can be: 12 records; deck 0 plays in a loop and in slip, with nudge, cues and 3 effects; deck 1
     * brakes; deck 2 stands in the last beat; deck 3 is empty; the text is full; moves were refused.
     */
    private static MixBooth fullBooth() {
        MixBooth x = new MixBooth();
        for (int i = 0; i < 12; i++) {
            x.addRecord(1200 + 20 * i, 100, 2 * i, i % 10, 8, 21845, 4369);
        }
        x.request(7);
        for (int deck = 0; deck < 3; deck++) {
            x.load(deck, deck);
            x.setFader(deck, 90 - deck);
            x.setBand(deck, deck, 77);
        }
        for (int record = 8; record < 12; record++) {
            x.ban(record, true);
        }
        x.addEffect(0, 'e', 50);
        x.addEffect(0, 'c', 0);
        x.addEffect(0, 'r', 70);
        x.setSide(1, 'r');
        x.setCross(-20);
        x.setPitch(0, 33);
        x.setLimit(0, 100);
        x.strobe(9, 5);
        x.jump(0, 20);
        x.setCue(0, 1);
        x.play(0);
        x.play(1);
        x.go(120);
        x.slip(0, true);
        x.loop(0, 1);
        x.nudge(0, 150);
        x.jump(2, 99);
        x.go(80);
        Checks.answer(() -> Booths.perform(x, "AsBc3"));
        x.wipe();
        x.brake(1);
        x.go(15);
        for (int i = 0; i < 10; i++) {
            x.type('B');
            x.type('f');
            x.type((char) ('0' + i));
        }
        return x;
    }

    /** All that a booth answers: what it is asked first, then what acts answer, and what comes of them. */
    private static String tell(MixBooth x, boolean withCauses) {
        List<String> told = new ArrayList<>();
        ask(told, x);
        if (withCauses) {
            for (int depth = 0; depth < 3; depth++) {
                int d = depth;
                told.add(Checks.answer(() -> x.cause(d)));
                told.add(Checks.answer(() -> x.causeNumber(d)));
            }
        }
        x.go(3);
        askDecks(told, x);
        takeBack(told, x);
        x.go(150);
        ask(told, x);
        told.add(Checks.answer(x::printAgain));
        told.add(Checks.answer(x::isSound));
        return told.toString();
    }

    private static void ask(List<String> told, MixBooth x) {
        told.add("" + x.logged() + ' ' + x.print() + ' ' + x.ticks() + ' ' + x.heard() + ' ' + x.silence() + ' '
                + x.clashes('v') + ' ' + x.clashes('b') + ' ' + x.breaches() + ' ' + Checks.answer(x::light) + ' '
                + Checks.answer(x::silentShare) + ' ' + Checks.answer(x::meanLoudness));
        for (int group = 0; group < 6; group++) {
            told.add("" + x.people(group) + ' ' + x.tired(group));
        }
        for (int record = 0; record < 13; record++) {
            int r = record;
            told.add(Checks.answer(() -> x.seconds(r)));
        }
        askDecks(told, x);
    }

    private static void askDecks(List<String> told, MixBooth x) {
        for (int deck = 0; deck < 4; deck++) {
            int d = deck;
            told.add(Checks.answer(() -> x.on(d)) + ' ' + Checks.answer(() -> x.place(d)) + ' '
                    + Checks.answer(() -> x.tempo(d)) + ' ' + x.plays(d) + ' ' + x.level(d) + ' '
                    + Checks.answer(() -> x.next(d, 2)) + ' ' + Checks.answer(() -> x.cost(d, 2)) + ' '
                    + Checks.answer(() -> x.tail(d, 0)) + ' ' + Checks.answer(() -> x.tail(d, 2)));
        }
    }

    private static void takeBack(List<String> told, MixBooth x) {
        told.add(Checks.answer(x::perform) + ' ' + x.wipe());
        for (int deck = 0; deck < 4; deck++) {
            int d = deck;
            told.add(Checks.answer(() -> x.nudge(d, 0)) + ' ' + x.out(d) + ' ' + Checks.answer(() -> x.slip(d, false))
                    + ' ' + x.setPitch(d, 0) + ' ' + x.setFader(d, 60) + ' ' + x.setBand(d, 0, 60) + ' '
                    + x.setBand(d, 1, 60) + ' ' + x.setBand(d, 2, 60) + ' ' + x.setSide(d, 'm') + ' '
                    + x.dropEffects(d));
            for (int cue = 0; cue < 4; cue++) {
                String move = (char) ('A' + d) + "c" + cue;
                told.add(Checks.answer(() -> Booths.perform(x, move)) + Checks.answer(() -> x.place(d)));
            }
        }
        told.add("" + x.setCross(0) + ' ' + x.setLimit(0, 9) + ' ' + x.setLimit(3, 9) + ' ' + x.strobe(1, 0));
        for (int record = 0; record < 12; record++) {
            int r = record;
            told.add(x.ban(r, false) + " " + x.request(r) + ' ' + Checks.answer(() -> x.correct(r, 1000)));
        }
    }

    /** The call is refused by this exception, and behind it the booth tells what it told without it. */
    private void refused(String what, Class<? extends RuntimeException> want, Call call) {
        MixBooth x = fullBooth();
        checks.refused(what, want, () -> call.make(x));
        checks.is(what + ": nothing has changed", true, () -> tell(x, true).equals(untouched));
    }

    private void records() {
        refused("2: out of range, and there are 12", WRONG, x -> x.addRecord(599, 16, 0, 0, 8, 0, 0));
        refused("2: the last one is out of range", WRONG, x -> x.addRecord(600, 16, 0, 0, 8, 0, 65536));
        refused("2: there are 12", STATE, x -> x.addRecord(600, 16, 0, 0, 8, 0, 0));
        refused("3: no such record, and out of range", NO_SUCH, x -> x.correct(12, 599));
        refused("3: out of range, and on a deck", WRONG, x -> x.correct(0, 2001));
        refused("3: out of range", WRONG, x -> x.correct(5, 2001));
        refused("3: on a deck that plays", CANNOT, x -> x.correct(0, 1000));
        refused("3: on a deck that stands", CANNOT, x -> x.correct(2, 1000));
        refused("4: no such record", NO_SUCH, x -> x.apart(12, 0));
        refused("4: no such other", NO_SUCH, x -> x.apart(0, -1));
        refused("4: neither", NO_SUCH, x -> x.apart(12, 12));
        refused("5: no such record", NO_SUCH, x -> x.ban(12, true));
        refused("6: no such record", NO_SUCH, x -> x.request(-1));
        refused("40: no such record", NO_SUCH, x -> x.seconds(12));
    }

    private void loadsAndDecks() {
        refused("7: no such deck", NO_SUCH, x -> x.load(4, 0));
        refused("7: neither", NO_SUCH, x -> x.load(-1, 12));
        refused("7: no such record, and the deck plays", NO_SUCH, x -> x.load(0, 12));
        refused("7: the deck plays", CANNOT, x -> x.load(0, 5));
        refused("7: the deck brakes", CANNOT, x -> x.load(1, 5));
        refused("8: no such deck", NO_SUCH, x -> x.play(4));
        refused("8: empty", CANNOT, x -> x.play(3));
        refused("9: no such deck", NO_SUCH, x -> x.stop(-1));
        refused("10: no such deck, and out of range", NO_SUCH, x -> x.setPitch(4, 161));
        refused("10: out of range", WRONG, x -> x.setPitch(0, -161));
        refused("10: out of range, on an empty deck", WRONG, x -> x.setPitch(3, 161));
        refused("11: no such deck, and out of range", NO_SUCH, x -> x.nudge(4, 201));
        refused("11: out of range, on an empty deck", WRONG, x -> x.nudge(3, 201));
        refused("11: out of range", WRONG, x -> x.nudge(0, -201));
        refused("11: empty", CANNOT, x -> x.nudge(3, 5));
        refused("12: no such deck", NO_SUCH, x -> x.brake(4));
        refused("12: empty", CANNOT, x -> x.brake(3));
        refused("13: no such deck, and no such beat", NO_SUCH, x -> x.jump(4, -1));
        refused("13: empty, and no such beat", CANNOT, x -> x.jump(3, -1));
        refused("13: empty", CANNOT, x -> x.jump(3, 0));
        refused("13: no such beat", WRONG, x -> x.jump(0, 100));
        refused("13: no such beat, below 0", WRONG, x -> x.jump(0, -1));
    }

    private void cuesAndLoops() {
        refused("14: no such deck, and no such cue", NO_SUCH, x -> x.setCue(4, 4));
        refused("14: no such cue, on an empty deck", WRONG, x -> x.setCue(3, 4));
        refused("14: no such cue", WRONG, x -> x.setCue(0, -1));
        refused("14: empty", CANNOT, x -> x.setCue(3, 0));
        refused("15: no such deck, and no such power", NO_SUCH, x -> x.loop(-1, 7));
        refused("15: no such power, on an empty deck", WRONG, x -> x.loop(3, 7));
        refused("15: no such power, which would go beyond the record", WRONG, x -> x.loop(2, 7));
        refused("15: no such power, below 0", WRONG, x -> x.loop(0, -1));
        refused("15: empty", CANNOT, x -> x.loop(3, 0));
        refused("15: empty, and it would go beyond any record there", CANNOT, x -> x.loop(3, 6));
        refused("15: beyond the record", STATE, x -> x.loop(2, 1));
        refused("16: no such deck", NO_SUCH, x -> x.out(4));
        refused("17: no such deck", NO_SUCH, x -> x.slip(4, true));
        refused("17: empty, on", CANNOT, x -> x.slip(3, true));
        refused("17: empty, off", CANNOT, x -> x.slip(3, false));
        refused("18: no such deck", NO_SUCH, x -> x.place(4));
        refused("18: empty", CANNOT, x -> x.place(3));
        refused("19: no such deck", NO_SUCH, x -> x.tempo(4));
        refused("19: empty", CANNOT, x -> x.tempo(3));
        refused("20: no such deck", NO_SUCH, x -> x.plays(4));
        refused("21: no such deck", NO_SUCH, x -> x.on(4));
        refused("21: empty", NONE, x -> x.on(3));
    }

    private void mixer() {
        refused("22: no such deck, and out of range", NO_SUCH, x -> x.setFader(4, 101));
        refused("22: out of range", WRONG, x -> x.setFader(0, 101));
        refused("23: no such deck, and all out of range", NO_SUCH, x -> x.setBand(4, 3, 101));
        refused("23: no such band", WRONG, x -> x.setBand(0, 3, 50));
        refused("23: out of range", WRONG, x -> x.setBand(0, 0, -1));
        refused("24: no such deck, and no such side", NO_SUCH, x -> x.setSide(4, 'x'));
        refused("24: no such side", WRONG, x -> x.setSide(0, 'c'));
        refused("25: out of range", WRONG, x -> x.setCross(-101));
        refused("26: no such deck", NO_SUCH, x -> x.level(4));
        refused("27: no such deck, and no such kind", NO_SUCH, x -> x.addEffect(4, 'x', 101));
        refused("27: no such kind, and it has 3", WRONG, x -> x.addEffect(0, 'x', 0));
        refused("27: out of range, and it has 3", WRONG, x -> x.addEffect(0, 'e', 101));
        refused("27: out of range", WRONG, x -> x.addEffect(1, 'e', -1));
        refused("27: no such kind", WRONG, x -> x.addEffect(1, 'E', 5));
        refused("27: it has 3", STATE, x -> x.addEffect(0, 'e', 0));
        refused("28: no such deck", NO_SUCH, x -> x.dropEffects(4));
        refused("29: no such deck, and no such effect", NO_SUCH, x -> x.tail(4, 3));
        refused("29: no such effect", NONE, x -> x.tail(0, 3));
        refused("29: no such effect on a deck without any", NONE, x -> x.tail(1, 0));
    }

    private void night() {
        refused("30: below", WRONG, x -> x.go(0));
        refused("30: above", WRONG, x -> x.go(2001));
        refused("34: no such thing", WRONG, x -> x.clashes('x'));
        refused("38: no such group", WRONG, x -> x.people(6));
        refused("39: no such group", WRONG, x -> x.tired(-1));
        refused("41: no such limit", WRONG, x -> x.setLimit(4, 5));
        refused("41: out of range", WRONG, x -> x.setLimit(0, 2001));
        refused("43: no such flashes", WRONG, x -> x.strobe(31, 1));
        refused("43: no such scene", WRONG, x -> x.strobe(1, 8));
    }

    private void locking() {
        refused("35: no such deck, and the other one is empty", NO_SUCH, x -> x.between(4, 3));
        refused("35: no such other, and the deck is empty", NO_SUCH, x -> x.between(3, 4));
        refused("35: empty", CANNOT, x -> x.between(3, 0));
        refused("35: the other one is empty", CANNOT, x -> x.between(0, 3));
        refused("36: no such deck, twice the same", NO_SUCH, x -> x.sync(4, 4));
        refused("36: no such other, and the deck is empty", NO_SUCH, x -> x.sync(3, -1));
        refused("36: empty", CANNOT, x -> x.sync(3, 0));
        refused("36: the other one is empty", CANNOT, x -> x.sync(0, 3));
        refused("36: both are the same", CANNOT, x -> x.sync(0, 0));
        refused("37: no such deck, and no such number", NO_SUCH, x -> x.ear(4, 0, 11));
        refused("37: no such other, and no such number", NO_SUCH, x -> x.ear(0, 4, 0));
        refused("37: no such number, on an empty deck", WRONG, x -> x.ear(3, 0, 11));
        refused("37: no such number, with an empty deck", WRONG, x -> x.ear(0, 3, 0));
        refused("37: no such number, twice the same", WRONG, x -> x.ear(0, 0, 11));
        refused("37: empty", CANNOT, x -> x.ear(3, 0, 3));
        refused("37: the other one is empty", CANNOT, x -> x.ear(0, 3, 3));
        refused("37: both are the same", CANNOT, x -> x.ear(1, 1, 3));
    }

    private void search() {
        for (int depth : new int[] {0, 5}) {
            refused("45: no such deck, and depth " + depth, NO_SUCH, x -> x.next(4, depth));
            refused("46: no such deck, and depth " + depth, NO_SUCH, x -> x.cost(4, depth));
            refused("45: an empty deck, and depth " + depth, WRONG, x -> x.next(3, depth));
            refused("46: an empty deck, and depth " + depth, WRONG, x -> x.cost(3, depth));
            refused("45: depth " + depth, WRONG, x -> x.next(0, depth));
            refused("46: depth " + depth, WRONG, x -> x.cost(0, depth));
        }
        refused("45: empty", CANNOT, x -> x.next(3, 4));
        refused("46: empty", CANNOT, x -> x.cost(3, 4));
        MixBooth few = new MixBooth();
        Booths.plain(few, 16);
        few.load(0, 0);
        checks.refused("45: no such depth, and not so many records", WRONG, () -> few.next(0, 5));
        checks.refused("46: no such depth, and not so many records", WRONG, () -> few.cost(0, 0));
        checks.refused("45: empty, and not so many records", CANNOT, () -> few.next(1, 1));
        checks.refused("46: empty, and not so many records", CANNOT, () -> few.cost(1, 1));
        checks.refused("45: not so many records", NONE, () -> few.next(0, 1));
        checks.refused("46: not so many records", NONE, () -> few.cost(0, 1));
        checks.is("54: nothing but a record and its load", 2, few::logged);
    }

    private void texts() {
        refused("47: it has 30", STATE, x -> x.type('A'));
        refused("50: no cause so deep", NONE, x -> x.cause(2));
        refused("50: below 0", NONE, x -> x.cause(-1));
        refused("51: no cause so deep", NONE, x -> x.causeNumber(2));
        refused("51: below 0", NONE, x -> x.causeNumber(-1));
    }

    private void faults() {
        refused("52: no such deck, and out of range", NO_SUCH, x -> x.skip(4, 33));
        refused("52: out of range, on an empty deck", WRONG, x -> x.skip(3, 0));
        refused("52: out of range", WRONG, x -> x.skip(0, 33));
        refused("52: empty", CANNOT, x -> x.skip(3, 1));
        refused("53: no such deck", NO_SUCH, x -> x.loseStick(4));
        refused("53: empty", CANNOT, x -> x.loseStick(3));
    }

    private static void figures(Checks c) {
        MixBooth x = new MixBooth();
        c.refused("57: no tick is gone", ArithmeticException.class, x::silentShare);
        c.refused("58: no tick is gone", ArithmeticException.class, x::meanLoudness);
        c.refused("44: nothing is heard", NONE, x::light);
        c.is("54: nothing is logged by that", 0, x::logged);
        c.is("55: nor changed", new MixBooth().print(), x::print);
    }

    /** Texts whose last move cannot be done; each of the moves ahead of it would change what the booth tells. */
    private static void refusedMoves(Checks c) {
        String[] texts = {"AsBc0", "BpAc0", "CpAc0", "AbAc0", "Ac1c0", "Am0m1m2Ac3", "Al6Ac0", "Al0Ac0", "AxAc0",
            "A+5Ac0", "A-5Ac0", "Af0Ac0", "Df9Ac0", "AkAc0", "CkAc0", "AkkAc0", "Axx", "AkxkBx", "Cl1", "Cl0l1",
            "ABCDp", "Asp+1-1xDk", "Am2c2Cc2", "BsbDb", "Dx", "Dm0", "Dl0", "D+1", "D-1", "Dc0", "CpsbkDsx"};
        for (String text : texts) {
            MixBooth x = fullBooth();
            MixBooth alike = fullBooth();
            type(alike, text);
            type(x, text);
            c.refused("49: " + text, CANNOT, x::perform);
            c.is("50: m, by " + text, 'm', () -> x.cause(0));
            c.is("49: nothing has changed but causes, by " + text, true,
                    () -> tell(x, false).equals(tell(alike, false)));
        }
    }

    private static void type(MixBooth x, String text) {
        x.wipe();
        for (int i = 0; i < text.length(); i++) {
            x.type(text.charAt(i));
        }
    }

    /** All of a text is read first: a sign that cannot be read comes ahead of a move that cannot be done. */
    private static void refusedTexts(Checks c) {
        String[] texts = {"", "p", "As?", "AsDp?", "Dpc", "Dx4", "AsbkxDpl7", "Cl1C", "Axxc4", "AsDpE"};
        for (String text : texts) {
            MixBooth x = fullBooth();
            MixBooth alike = fullBooth();
            type(alike, text);
            type(x, text);
            if (text.equals("Cl1C")) {
                c.refused("49: it can be read, " + text, CANNOT, x::perform);
                c.is("50: m, by " + text, 'm', () -> x.cause(0));
            } else {
                c.refused("49: it cannot be read, " + text, WRONG, x::perform);
                c.is("50: t, by " + text, 't', () -> x.cause(0));
            }
            c.is("49: nothing has changed but causes, by " + text, true,
                    () -> tell(x, false).equals(tell(alike, false)));
        }
    }

    private static void sameRefusalTwice(Checks c) {
        MixBooth x = Booths.withOne();
        c.refused("49: a move", CANNOT, () -> Booths.perform(x, "Asc0"));
        c.refused("49: the text is still there", CANNOT, x::perform);
        c.is("51: the same place", 2, () -> x.causeNumber(0));
        c.refused("50: the same two causes", NONE, () -> x.cause(2));
        x.setCue(0, 0);
        c.is("49: now it can be done", 2, x::perform);
        c.refused("49: and it is empty then", WRONG, x::perform);
        c.is("51: with its fault at 0", 0, () -> x.causeNumber(0));
        c.refused("51: and none below", NONE, () -> x.causeNumber(1));
    }
}
