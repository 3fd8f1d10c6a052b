/** Texts of moves, sign by sign: which ones can stand there, where the fault is, and what each digit makes. */
public final class TextsTest {
    private static final Class<IllegalArgumentException> UNREAD = IllegalArgumentException.class;
    private static final Class<UnsupportedOperationException> UNDONE = UnsupportedOperationException.class;
    private static final long BEAT = Booths.BEAT;
    private static final int SIGNS = 300;

    private TextsTest() {
    }

    public static void main(String[] args) {
        Checks c = new Checks("TextsTest");
        firstSigns(c);
        signsBehindDecks(c);
        signsBehindMoves(c);
        digits(c);
        tooEarly(c);
        firstFaultOfSeveral(c);
        firstMoveThatCannotBeDone(c);
        placeOfMoves(c);
        deckOfCauses(c);
        jumpsToCues(c);
        cuesOfMoves(c);
        loopsOfMoves(c);
        nudgesOfMoves(c);
        fadersOfMoves(c);
        movesOfSlip(c);
        movesSeeMovesAhead(c);
        howManyWereDone(c);
        alwaysDone(c);
        c.end();
    }

    /** Where the fault of a text is, or -1 if it can be read; the booth has a record on each deck. */
    private static int fault(String text) {
        MixBooth x = Booths.withFour();
        try {
            Booths.perform(x, text);
        } catch (IllegalArgumentException e) {
            return x.cause(0) == 't' ? x.causeNumber(0) : -99;
        } catch (UnsupportedOperationException e) {
            return -1;
        }
        return -1;
    }

    private static void firstSigns(Checks c) {
        for (int sign = 0; sign < SIGNS; sign++) {
            String text = "" + (char) sign;
            boolean isDeck = sign >= 'A' && sign <= 'D';
            c.is("49: the first sign " + sign, isDeck ? -1 : 0, () -> fault(text));
        }
        c.is("49: the first sign, far off", 0, () -> fault("" + (char) 65535));
    }

    /** Ahead of a sign that can stand there, nothing is missing; a move with a digit ends too early. */
    private static int faultBehind(int place, int sign) {
        if ("ABCDpsbxk".indexOf((char) sign) >= 0) {
            return -1;
        }
        return "cml+-f".indexOf((char) sign) >= 0 ? place + 1 : place;
    }

    private static void signsBehindDecks(Checks c) {
        for (int sign = 0; sign < SIGNS; sign++) {
            String text = "D" + (char) sign;
            c.is("49: the sign " + sign + " behind a deck", faultBehind(1, sign), () -> fault(text));
        }
    }

    private static void signsBehindMoves(Checks c) {
        String[] ahead = {"Ap", "Bs", "Cb", "Dx", "Ak", "Af9", "Bm3", "C+0", "D-9", "Al6", "Bc0", "Aff"};
        for (String begun : ahead) {
            for (int sign = 0; sign < SIGNS; sign++) {
                String text = begun + (char) sign;
                int due = begun.equals("Aff") ? 2 : faultBehind(begun.length(), sign);
                c.is("49: the sign " + sign + " behind " + begun, due, () -> fault(text));
            }
        }
    }

    private static void digits(Checks c) {
        String[] moves = {"c", "m", "l", "+", "-", "f"};
        char[] last = {'3', '3', '6', '9', '9', '9'};
        for (int i = 0; i < moves.length; i++) {
            for (int sign = 0; sign < SIGNS; sign++) {
                String text = "A" + moves[i] + (char) sign;
                int due = sign >= '0' && sign <= last[i] ? -1 : 2;
                c.is("49: the digit " + sign + " of " + moves[i], due, () -> fault(text));
            }
        }
    }

    private static void tooEarly(Checks c) {
        String[] texts = {"", "Ac", "Am", "Al", "A+", "A-", "Af", "ABCDf", "Apsbxkf", "Af1f2f3f"};
        for (String text : texts) {
            c.is("49: too early, at its length: " + text, text.length(), () -> fault(text));
        }
    }

    private static void firstFaultOfSeveral(Checks c) {
        Object[][] texts = {{"??", 0}, {"pA?", 0}, {"A??", 1}, {"Ac?c", 2}, {"Ac9l9", 2}, {"ApEf", 2}, {"A1Ac", 1},
            {"  ", 0}, {"A p", 1}, {"Ac00", 3}};
        for (Object[] text : texts) {
            c.is("51: the first sign that cannot stand there: " + text[0], text[1], () -> fault((String) text[0]));
        }
    }

    private static void refused(Checks c, MixBooth x, String text, int place, char cause, int deck) {
        c.refused("49: " + text, UNDONE, () -> Booths.perform(x, text));
        c.is("50: m, " + text, 'm', () -> x.cause(0));
        c.is("51: its first sign, " + text, place, () -> x.causeNumber(0));
        c.is("50: why, " + text, cause, () -> x.cause(1));
        c.is("51: the deck, " + text, deck, () -> x.causeNumber(1));
    }

    private static void firstMoveThatCannotBeDone(Checks c) {
        MixBooth x = Booths.withFour();
        x.loseStick(3);
        x.jump(1, 99);
        refused(c, x, "Ac0Bl1DpCx", 1, 'c', 0);
        refused(c, x, "Bl1DpCxAc0", 1, 'l', 1);
        refused(c, x, "DpCxAc0Bl1", 1, 'e', 3);
        refused(c, x, "CxAc0Bl1Dp", 1, 'i', 2);
        refused(c, x, "BpBsCf9BkBl1Cx", 10, 'l', 1);
        c.refused("49: but what cannot be read comes first", UNREAD, () -> Booths.perform(x, "Ac0Bl1DpCx?"));
        c.is("51: with its own place", 10, () -> x.causeNumber(0));
    }

    private static void placeOfMoves(Checks c) {
        MixBooth x = Booths.withFour();
        refused(c, x, "Ax", 1, 'i', 0);
        refused(c, x, "AAAAx", 4, 'i', 0);
        refused(c, x, "Af1x", 3, 'i', 0);
        refused(c, x, "Af1f1c0", 5, 'c', 0);
        refused(c, x, "Apppc3", 4, 'c', 0);
        refused(c, x, "ABCDpppppppppppppppppppppppppx", 29, 'i', 3);
    }

    private static void deckOfCauses(Checks c) {
        for (int deck = 0; deck < 4; deck++) {
            char letter = (char) ('A' + deck);
            MixBooth full = Booths.withFour();
            full.jump(deck, 99);
            refused(c, full, letter + "c0", 1, 'c', deck);
            refused(c, full, letter + "l1", 1, 'l', deck);
            refused(c, full, letter + "x", 1, 'i', deck);
            MixBooth empty = new MixBooth();
            refused(c, empty, letter + "p", 1, 'e', deck);
            refused(c, empty, letter + "c0", 1, 'e', deck);
            refused(c, empty, letter + "l6", 1, 'e', deck);
            refused(c, empty, letter + "x", 1, 'i', deck);
        }
    }

    private static void jumpsToCues(Checks c) {
        MixBooth x = Booths.withFour();
        for (int cue = 0; cue < 4; cue++) {
            x.jump(2, 10 + cue);
            x.setCue(2, cue);
        }
        for (int cue = 3; cue >= 0; cue--) {
            int q = cue;
            c.is("49: c" + cue, 1, () -> Booths.perform(x, "Cc" + q));
            c.is("49: a jump to this cue", (10 + q) * BEAT, () -> x.place(2));
        }
    }

    private static void cuesOfMoves(Checks c) {
        for (int cue = 0; cue < 4; cue++) {
            int q = cue;
            MixBooth x = Booths.withFour();
            x.play(1);
            x.go(25);
            c.is("49: m" + cue, 1, () -> Booths.perform(x, "Bm" + q));
            x.jump(1, 50);
            c.is("49: c" + cue, 1, () -> Booths.perform(x, "Bc" + q));
            c.is("14: of two the later one, by a move", BEAT, () -> x.place(1));
            refused(c, x, "Bc" + (3 - cue), 1, 'c', 1);
            x.jump(1, 99);
            x.go(30);
            c.is("49: not behind the last one", 2, () -> Booths.perform(x, "Bm" + q + "c" + q));
            c.is("14: not behind the last one, by a move", 99 * BEAT, () -> x.place(1));
        }
    }

    private static void loopsOfMoves(Checks c) {
        for (int power = 0; power <= 6; power++) {
            int p = power;
            int length = 1 << power;
            MixBooth x = Booths.withFour();
            x.jump(0, 100 - length);
            c.is("49: l" + power + " up to the end", 1, () -> Booths.perform(x, "Al" + p));
            x.play(0);
            Booths.goFar(x, 50 * length);
            c.is("49: a loop of 2 to the power of " + power + " beats", (100 - length) * BEAT, () -> x.place(0));
            c.is("49: the deck goes round", true, () -> x.plays(0));
            if (power > 0) {
                x.out(0);
                x.jump(0, 101 - length);
                refused(c, x, "Al" + power, 1, 'l', 0);
            }
        }
    }

    private static void nudgesOfMoves(Checks c) {
        for (int digit = 0; digit <= 9; digit++) {
            int d = digit;
            MixBooth x = Booths.withOne();
            c.is("49: +" + digit, 1, () -> Booths.perform(x, "A+" + d));
            c.is("49: ten times so many ticks, faster", 10 * d, () -> x.nudge(0, 200));
            c.is("49: -" + digit, 1, () -> Booths.perform(x, "A-" + d));
            c.is("49: ten times so many ticks, slower", -10 * d, () -> x.nudge(0, 0));
        }
    }

    private static void fadersOfMoves(Checks c) {
        for (int digit = 0; digit <= 9; digit++) {
            int d = digit;
            MixBooth x = new MixBooth();
            x.setFader(1, 100);
            c.is("49: f" + digit, 1, () -> Booths.perform(x, "Bf" + d));
            c.is("49: it times 11", 11 * d, () -> x.setFader(1, 0));
        }
    }

    /** What a move finds was set by calls: slip that is on, and its second place. */
    private static void movesOfSlip(Checks c) {
        MixBooth x = Booths.withOne();
        x.slip(0, true);
        x.jump(0, 99);
        c.is("49: a loop of 64 beats from where slip ends", 2, () -> Booths.perform(x, "Akl6"));
        c.is("49: at 0", 0, () -> x.place(0));
        MixBooth y = Booths.withOne();
        y.jump(0, 99);
        y.slip(0, true);
        y.jump(0, 0);
        refused(c, y, "Akl6", 2, 'l', 0);
        c.is("49: slip is still on", true, () -> y.slip(0, false));
        c.is("17: and its second place is as it was", 99 * BEAT, () -> y.place(0));
    }

    private static void movesSeeMovesAhead(Checks c) {
        MixBooth x = Booths.withOne();
        c.is("49: a cue that was set ahead", 2, () -> Booths.perform(x, "Am2c2"));
        c.is("49: a loop that was set ahead", 2, () -> Booths.perform(x, "Al3x"));
        x.jump(0, 99);
        x.setCue(0, 0);
        x.jump(0, 0);
        refused(c, x, "Ac0l1", 3, 'l', 0);
        c.is("49: the jump is undone", 0, () -> x.place(0));
        x.setCue(0, 1);
        x.jump(0, 99);
        c.is("49: a jump ahead of the loop", 2, () -> Booths.perform(x, "Ac1l6"));
        refused(c, x, "Axx", 2, 'i', 0);
        c.is("49: the loop is on again", true, () -> x.out(0));
    }

    private static void howManyWereDone(Checks c) {
        Object[][] texts = {{"A", 0}, {"ABCD", 0}, {"AAAA", 0}, {"Ap", 1}, {"ApB", 1}, {"ApBp", 2}, {"Af1", 1},
            {"Af1f2", 2}, {"ApsbDf0kk", 6}, {"Am0c0l0x+1-1", 6}};
        for (Object[] text : texts) {
            MixBooth x = Booths.withFour();
            int logged = x.logged();
            c.is("49: how many were done of " + text[0], text[1], () -> Booths.perform(x, (String) text[0]));
            c.is("54: one act", logged + 1, x::logged);
            c.is("49: the text is empty then", 0, x::wipe);
        }
    }

    private static void alwaysDone(Checks c) {
        MixBooth x = new MixBooth();
        c.is("49: s and f on empty decks", 8, () -> Booths.perform(x, "Asf1Bsf2Csf3Dsf9"));
        c.is("22: the fader of an empty deck", 99, () -> x.setFader(3, 0));
        MixBooth y = Booths.withFour();
        Booths.toLastPlace(y, 0);
        c.is("49: p at the last place, too", 3, () -> Booths.perform(y, "Appp"));
        c.is("8: it does not begin there", false, () -> y.plays(0));
        c.is("49: b on a deck that stands", 1, () -> Booths.perform(y, "Ab"));
        c.is("49: p on a deck that plays", 2, () -> Booths.perform(y, "Bpp"));
        c.is("20: it plays", true, () -> y.plays(1));
    }
}
