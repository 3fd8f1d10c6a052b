import java.util.function.IntFunction;

/** Too small, too large: each argument at its least and its most, and the first one beyond on each side. */
public final class SmallAndLargeTest {
    private static final Class<IllegalArgumentException> WRONG = IllegalArgumentException.class;
    private static final Class<IndexOutOfBoundsException> NO_SUCH = IndexOutOfBoundsException.class;

    /** A call that tells a deck. */
    private interface OnDeck {
        Object make(MixBooth x, int deck);
    }

    private SmallAndLargeTest() {
    }

    public static void main(String[] args) {
        Checks c = new Checks("SmallAndLargeTest");
        numbersOfRecords(c);
        whatRecordsAre(c);
        phrases(c);
        records(c);
        decks(c);
        deckNumbers(c);
        otherDecks(c);
        beatsOfJumps(c);
        mixerNumbers(c);
        signs(c);
        effects(c);
        nightNumbers(c);
        groups(c);
        depths(c);
        causes(c);
        c.end();
    }

    private static boolean isDone(String answer) {
        return !answer.startsWith("throws");
    }

    /** Both ends are done, whatever is beyond them is refused. */
    private static void range(Checks c, String what, int least, int most, Class<? extends RuntimeException> refusal,
            IntFunction<Object> call) {
        c.is(what + ": " + least + " is the least", true, () -> isDone(Checks.answer(() -> call.apply(least))));
        c.is(what + ": " + most + " is the most", true, () -> isDone(Checks.answer(() -> call.apply(most))));
        int[] beyond = {least - 1, most + 1, Integer.MIN_VALUE, Integer.MAX_VALUE};
        for (int number : beyond) {
            c.refused(what + ": " + number + " is beyond", refusal, () -> call.apply(number));
        }
    }

    private static int record(int tempo, int beats, int key, int energy, int voices, int quiet) {
        return new MixBooth().addRecord(tempo, beats, key, energy, 8, voices, quiet);
    }

    private static void numbersOfRecords(Checks c) {
        range(c, "2: tempo", 600, 2000, WRONG, v -> record(v, 16, 0, 0, 0, 0));
        range(c, "2: beats", 16, 999, WRONG, v -> record(600, v, 0, 0, 0, 0));
        range(c, "2: key", 0, 23, WRONG, v -> record(600, 16, v, 0, 0, 0));
        range(c, "2: energy", 0, 9, WRONG, v -> record(600, 16, 0, v, 0, 0));
        range(c, "2: voices", 0, 65535, WRONG, v -> record(600, 16, 0, 0, v, 0));
        range(c, "2: quiet", 0, 65535, WRONG, v -> record(600, 16, 0, 0, 0, v));
        range(c, "3: tempo", 600, 2000, WRONG, v -> {
            MixBooth x = new MixBooth();
            Booths.plain(x, 16);
            return x.correct(0, v);
        });
    }

    /** The ends are not only taken: decks go by them. */
    private static void whatRecordsAre(Checks c) {
        MixBooth x = new MixBooth();
        x.addRecord(600, 16, 0, 0, 8, 0, 0);
        x.addRecord(2000, 999, 23, 9, 32, 65535, 65535);
        x.load(0, 0);
        x.load(1, 1);
        c.is("2: the least tempo", 600000, () -> x.tempo(0));
        c.is("2: the most tempo", 2000000, () -> x.tempo(1));
        c.refused("2: 16 beats have no beat 16", WRONG, () -> x.jump(0, 16));
        c.is("2: 16 beats have a beat 15", 0, () -> x.jump(0, 15));
        c.refused("2: 999 beats have no beat 999", WRONG, () -> x.jump(1, 999));
        c.is("2: 999 beats have a beat 998", 0, () -> x.jump(1, 998));
        c.is("4: the least and the most key", 2, () -> x.apart(0, 1));
        x.setFader(0, 100);
        x.setFader(1, 100);
        x.play(0);
        x.go(1);
        c.is("2: the least energy", 100, x::heard);
        x.stop(0);
        x.play(1);
        x.go(1);
        c.is("2: the most energy", 1000, x::heard);
        MixBooth y = new MixBooth();
        y.addRecord(2000, 600, 0, 0, 8, 32768, 32767);
        y.load(0, 0);
        y.load(1, 0);
        for (int deck = 0; deck < 2; deck++) {
            y.setFader(deck, 100);
            y.play(deck);
            y.jump(deck, 15 * 8);
        }
        y.go(1);
        c.is("2: a voice in the phrase 15 alone", 1, () -> y.clashes('v'));
        c.is("2: bass in the phrase 15 alone", 1, () -> y.clashes('b'));
        y.jump(0, 14 * 8);
        y.jump(1, 14 * 8);
        y.go(1);
        c.is("2: no voice in the phrase 14", 1, () -> y.clashes('v'));
        c.is("2: no bass in the phrase 14", 1, () -> y.clashes('b'));
    }

    private static void phrases(Checks c) {
        int[] right = {8, 16, 32};
        for (int phrase : right) {
            c.is("2: phrases of " + phrase, 0, () -> new MixBooth().addRecord(600, 16, 0, 0, phrase, 0, 0));
            int[] wrong = {phrase - 1, phrase + 1, -phrase};
            for (int w : wrong) {
                c.refused("2: phrases of " + w, WRONG, () -> new MixBooth().addRecord(600, 16, 0, 0, w, 0, 0));
            }
        }
        int[] wrong = {0, 1, 4, 24, 64, Integer.MIN_VALUE, Integer.MAX_VALUE};
        for (int w : wrong) {
            c.refused("2: phrases of " + w, WRONG, () -> new MixBooth().addRecord(600, 16, 0, 0, w, 0, 0));
        }
    }

    private static MixBooth threeRecords() {
        MixBooth x = new MixBooth();
        for (int i = 0; i < 3; i++) {
            Booths.plain(x, 16);
        }
        return x;
    }

    private static void records(Checks c) {
        range(c, "3: record", 0, 2, NO_SUCH, v -> threeRecords().correct(v, 700));
        range(c, "4: record", 0, 2, NO_SUCH, v -> threeRecords().apart(v, 1));
        range(c, "4: other", 0, 2, NO_SUCH, v -> threeRecords().apart(1, v));
        range(c, "5: record", 0, 2, NO_SUCH, v -> threeRecords().ban(v, true));
        range(c, "6: record", 0, 2, NO_SUCH, v -> threeRecords().request(v));
        range(c, "7: record", 0, 2, NO_SUCH, v -> threeRecords().load(0, v));
        range(c, "40: record", 0, 2, NO_SUCH, v -> threeRecords().seconds(v));
    }

    private static void deckCall(Checks c, String what, OnDeck call) {
        range(c, what + ", deck", 0, 3, NO_SUCH, v -> {
            MixBooth x = Booths.withFour();
            Booths.plain(x, 16);
            x.addEffect(0, 'e', 1);
            x.addEffect(3, 'e', 1);
            return call.make(x, v);
        });
    }

    private static void decks(Checks c) {
        deckCall(c, "7: load", (x, v) -> x.load(v, 0));
        deckCall(c, "8: play", (x, v) -> x.play(v));
        deckCall(c, "9: stop", (x, v) -> x.stop(v));
        deckCall(c, "10: setPitch", (x, v) -> x.setPitch(v, 0));
        deckCall(c, "11: nudge", (x, v) -> x.nudge(v, 0));
        deckCall(c, "12: brake", (x, v) -> x.brake(v));
        deckCall(c, "13: jump", (x, v) -> x.jump(v, 0));
        deckCall(c, "14: setCue", (x, v) -> x.setCue(v, 0));
        deckCall(c, "15: loop", (x, v) -> x.loop(v, 0));
        deckCall(c, "16: out", (x, v) -> x.out(v));
        deckCall(c, "17: slip", (x, v) -> x.slip(v, true));
        deckCall(c, "18: place", (x, v) -> x.place(v));
        deckCall(c, "19: tempo", (x, v) -> x.tempo(v));
        deckCall(c, "20: plays", (x, v) -> x.plays(v));
        deckCall(c, "21: on", (x, v) -> x.on(v));
        deckCall(c, "22: setFader", (x, v) -> x.setFader(v, 0));
        deckCall(c, "23: setBand", (x, v) -> x.setBand(v, 0, 0));
        deckCall(c, "24: setSide", (x, v) -> x.setSide(v, 'm'));
        deckCall(c, "26: level", (x, v) -> x.level(v));
        deckCall(c, "27: addEffect", (x, v) -> x.addEffect(v, 'c', 0));
        deckCall(c, "28: dropEffects", (x, v) -> x.dropEffects(v));
        deckCall(c, "29: tail", (x, v) -> x.tail(v, 0));
        deckCall(c, "45: next", (x, v) -> x.next(v, 1));
        deckCall(c, "46: cost", (x, v) -> x.cost(v, 1));
        deckCall(c, "52: skip", (x, v) -> x.skip(v, 1));
        deckCall(c, "53: loseStick", (x, v) -> x.loseStick(v));
    }

    private static void otherDecks(Checks c) {
        deckCall(c, "35: between", (x, v) -> x.between(v, 1));
        deckCall(c, "35: between, other", (x, v) -> x.between(1, v));
        deckCall(c, "36: sync", (x, v) -> x.sync(v, 1));
        deckCall(c, "36: sync, other", (x, v) -> x.sync(1, v));
        deckCall(c, "37: ear", (x, v) -> x.ear(v, 1, 1));
        deckCall(c, "37: ear, other", (x, v) -> x.ear(1, v, 1));
    }

    private static void deckNumbers(Checks c) {
        range(c, "10: pitch", -160, 160, WRONG, v -> Booths.withOne().setPitch(0, v));
        range(c, "11: ticks", -200, 200, WRONG, v -> Booths.withOne().nudge(0, v));
        range(c, "14: cue", 0, 3, WRONG, v -> Booths.withOne().setCue(0, v));
        range(c, "15: power", 0, 6, WRONG, v -> Booths.withOne().loop(0, v));
        range(c, "52: beats", 1, 32, WRONG, v -> Booths.withOne().skip(0, v));
        MixBooth x = Booths.playing();
        x.setPitch(0, -160);
        c.is("10: -160 tenths of a percent", 1200 * 840, () -> x.tempo(0));
        x.setPitch(0, 160);
        c.is("10: 160 tenths of a percent", 1200 * 1160, () -> x.tempo(0));
        x.nudge(0, -200);
        x.go(199);
        c.is("11: -200, behind 199 ticks", -1, () -> x.nudge(0, 200));
        x.go(199);
        c.is("11: 200, behind 199 ticks", 1, () -> x.nudge(0, 0));
        x.jump(0, 50);
        c.is("52: 32 beats", 18 * Booths.BEAT, () -> x.skip(0, 32));
        c.is("52: 1 beat", 17 * Booths.BEAT, () -> x.skip(0, 1));
        c.is("15: 1 beat", 18, () -> x.loop(0, 0));
        c.is("15: 64 beats", 81, () -> x.loop(0, 6));
    }

    /** The beats of a jump end with those of the record. */
    private static void beatsOfJumps(Checks c) {
        range(c, "13: beat of 100", 0, 99, WRONG, v -> Booths.withOne().jump(0, v));
        range(c, "13: beat of 16", 0, 15, WRONG, v -> {
            MixBooth x = threeRecords();
            x.load(0, 0);
            return x.jump(0, v);
        });
        range(c, "13: beat of 999", 0, 998, WRONG, v -> {
            MixBooth x = new MixBooth();
            Booths.plain(x, 999);
            x.load(0, 0);
            return x.jump(0, v);
        });
    }

    private static void mixerNumbers(Checks c) {
        range(c, "22: value", 0, 100, WRONG, v -> new MixBooth().setFader(0, v));
        range(c, "23: band", 0, 2, WRONG, v -> new MixBooth().setBand(0, v, 0));
        range(c, "23: value", 0, 100, WRONG, v -> new MixBooth().setBand(0, 0, v));
        range(c, "25: value", -100, 100, WRONG, v -> new MixBooth().setCross(v));
        range(c, "27: strength", 0, 100, WRONG, v -> new MixBooth().addEffect(0, 'e', v));
        range(c, "27: strength of a chop", 0, 100, WRONG, v -> new MixBooth().addEffect(0, 'c', v));
        MixBooth x = Booths.playing();
        x.addEffect(0, 'e', 0);
        x.addEffect(0, 'e', 100);
        x.go(1);
        c.is("27: the least strength", 0, () -> x.tail(0, 0));
        c.is("27: the most strength", 400, () -> x.tail(0, 1));
    }

    /** Of all signs there are, those of the list alone are done. */
    private static void onlySigns(Checks c, String what, String signs, IntFunction<Object> call) {
        int done = 0;
        for (int sign = 0; sign <= 65535; sign++) {
            int s = sign;
            String answer = Checks.answer(() -> call.apply(s));
            boolean isDue = signs.indexOf((char) sign) >= 0;
            if (isDone(answer) && isDue) {
                done++;
            } else if (isDue || !answer.equals("throws java.lang.IllegalArgumentException")) {
                c.is(what + " " + sign, isDue ? "done" : "refused", () -> answer);
            }
        }
        int all = done;
        c.is(what + ": no other sign", signs.length(), () -> all);
    }

    private static void signs(Checks c) {
        MixBooth x = new MixBooth();
        onlySigns(c, "24: side", "lmr", v -> x.setSide(0, (char) v));
        onlySigns(c, "27: kind", "erc", v -> x.addEffect(0, (char) v, 0));
        onlySigns(c, "34: what", "vb", v -> x.clashes((char) v));
    }

    private static void effects(Checks c) {
        for (int count = 0; count <= 3; count++) {
            MixBooth x = new MixBooth();
            for (int i = 0; i < count; i++) {
                x.addEffect(2, 'r', 9);
            }
            int last = count - 1;
            if (count > 0) {
                c.is("29: the last of " + count, 0, () -> x.tail(2, last));
            }
            int[] beyond = {-1, count, Integer.MIN_VALUE, Integer.MAX_VALUE};
            for (int effect : beyond) {
                c.refused("29: effect " + effect + " of " + count, java.util.NoSuchElementException.class,
                        () -> x.tail(2, effect));
            }
        }
    }

    private static void nightNumbers(Checks c) {
        range(c, "30: ticks", 1, 2000, WRONG, v -> new MixBooth().go(v));
        range(c, "37: rounds", 1, 10, WRONG, v -> Booths.withFour().ear(0, 1, v));
        range(c, "41: index", 0, 3, WRONG, v -> new MixBooth().setLimit(v, 0));
        range(c, "41: loudness", 0, 2000, WRONG, v -> new MixBooth().setLimit(0, v));
        range(c, "43: flashes", 1, 30, WRONG, v -> new MixBooth().strobe(v, 0));
        range(c, "43: scene", 0, 7, WRONG, v -> new MixBooth().strobe(1, v));
        c.is("30: 1 tick", 1, () -> new MixBooth().go(1));
        c.is("30: 2000 ticks", 2000, () -> new MixBooth().go(2000));
        MixBooth x = new MixBooth();
        for (int flashes = 1; flashes <= 30; flashes++) {
            int f = flashes;
            c.is("43: " + f + " flashes, cut to 10 by law", f < 10 ? f : 10, () -> x.strobe(f, 0));
        }
    }

    private static void groups(Checks c) {
        range(c, "38: group, or -1 for all", -1, 5, WRONG, v -> new MixBooth().people(v));
        range(c, "39: group", 0, 5, WRONG, v -> new MixBooth().tired(v));
        c.is("38: the first group", 20, () -> new MixBooth().people(0));
        c.is("38: the last group", 20, () -> new MixBooth().people(5));
        c.is("38: all", 120, () -> new MixBooth().people(-1));
    }

    private static MixBooth sixRecords() {
        MixBooth x = threeRecords();
        for (int i = 0; i < 3; i++) {
            Booths.plain(x, 16);
        }
        x.load(0, 0);
        return x;
    }

    private static void depths(Checks c) {
        range(c, "45: depth", 1, 4, WRONG, v -> sixRecords().next(0, v));
        range(c, "46: depth", 1, 4, WRONG, v -> sixRecords().cost(0, v));
    }

    private static void causes(Checks c) {
        MixBooth text = new MixBooth();
        Checks.answer(text::perform);
        MixBooth move = new MixBooth();
        Checks.answer(() -> Booths.perform(move, "Dp"));
        Class<java.util.NoSuchElementException> none = java.util.NoSuchElementException.class;
        range(c, "50: depth of a text's cause", 0, 0, none, text::cause);
        range(c, "51: depth of a text's cause", 0, 0, none, text::causeNumber);
        range(c, "50: depth of a move's causes", 0, 1, none, move::cause);
        range(c, "51: depth of a move's causes", 0, 1, none, move::causeNumber);
    }
}
