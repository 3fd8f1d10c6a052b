/** Ends: the first and the last place, a loop at its end, the ends of slip, nudge, brake, sync and ear. */
public final class EndsTest {
    private static final long BEAT = Booths.BEAT;
    private static final long STEP = Booths.STEP;
    private static final long LAST = 100 * BEAT - 1;

    private EndsTest() {
    }

    public static void main(String[] args) {
        Checks c = new Checks("EndsTest");
        exactlyAtEnd(c);
        beyondEnd(c);
        atLastPlace(c);
        lastPlaceOfEach(c);
        beginAtLastPlace(c);
        firstPlace(c);
        beatOfPlace(c);
        cueAtEnds(c);
        loopAtItsEnd(c);
        loopAtEndOfRecord(c);
        loopBeyondRecord(c);
        endOfSlip(c);
        slipAtLastPlace(c);
        slipWithoutJumps(c);
        slipSetAgain(c);
        endOfNudge(c);
        endOfBrake(c);
        brakeFromBeginning(c);
        brakeTakenOff(c);
        brakeAtEndOfRecord(c);
        syncBelowFirst(c);
        syncBehindLast(c);
        earAtFirst(c);
        earAtLast(c);
        needleAtFirst(c);
        stickAtLastPlace(c);
        c.end();
    }

    private static MixBooth standing() {
        MixBooth x = Booths.withFour();
        for (int deck = 0; deck < 4; deck++) {
            x.setFader(deck, 100);
        }
        return x;
    }

    private static void exactlyAtEnd(Checks c) {
        MixBooth x = standing();
        x.jump(0, 99);
        x.play(0);
        c.is("30: 49 steps of a beat sound", 0, () -> x.go(49));
        c.is("18: one step ahead of the end", 100 * BEAT - STEP, () -> x.place(0));
        c.is("20: it plays", true, () -> x.plays(0));
        c.is("30: behind the 50th it does not play", 1, () -> x.go(1));
        c.is("18: one unit ahead of its end", LAST, () -> x.place(0));
        c.is("20: it stops at the end", false, () -> x.plays(0));
        c.is("26: its level is 0", 0, () -> x.level(0));
        x.go(5);
        c.is("18: it stays there", LAST, () -> x.place(0));
    }

    private static void beyondEnd(Checks c) {
        MixBooth x = standing();
        x.setPitch(0, 7);
        x.jump(0, 99);
        x.play(0);
        x.go(49);
        c.is("18: ahead of the end", 99 * BEAT + 49 * 1200 * 1007L, () -> x.place(0));
        x.go(1);
        c.is("18: not beyond its last place", LAST, () -> x.place(0));
        c.is("20: it stops", false, () -> x.plays(0));
    }

    private static void atLastPlace(Checks c) {
        MixBooth x = standing();
        Booths.toUnitAheadOf(x, 0, 99);
        x.play(0);
        c.is("30: all 50 ticks sound", 0, () -> x.go(50));
        c.is("18: at the last place by its steps", LAST, () -> x.place(0));
        c.is("20: that is ahead of the end, so it plays", true, () -> x.plays(0));
        c.is("26: with its level", 100, () -> x.level(0));
        c.is("8: it does not begin there", false, () -> x.play(0));
        c.is("12: it brakes there", true, () -> x.brake(0));
        x.go(1);
        c.is("20: then it stops", false, () -> x.plays(0));
        c.is("18: where it is", LAST, () -> x.place(0));
    }

    private static void lastPlaceOfEach(Checks c) {
        int[] beats = {16, 17, 998, 999};
        for (int count : beats) {
            MixBooth x = new MixBooth();
            Booths.plain(x, count);
            x.load(0, 0);
            x.jump(0, count - 1);
            x.play(0);
            x.go(2000);
            c.is("18: the last place of " + count, count * BEAT - 1, () -> x.place(0));
        }
    }

    private static void beginAtLastPlace(Checks c) {
        MixBooth x = standing();
        Booths.toLastPlace(x, 0);
        int logged = x.logged();
        c.is("8: it does not begin at its last place", false, () -> x.play(0));
        c.is("20: it does not", false, () -> x.plays(0));
        c.is("54: but the call is done", logged + 1, x::logged);
        c.is("49: p at the last place can be done, too", 1, () -> Booths.perform(x, "Ap"));
        c.is("20: it does not play by that", false, () -> x.plays(0));
        x.skip(0, 1);
        c.is("8: a beat ahead it begins", true, () -> x.play(0));
        MixBooth y = standing();
        Booths.toLastPlace(y, 0);
        y.play(1);
        y.go(48);
        c.is("35: 39 thousandths ahead", 39, () -> y.between(0, 1));
        y.ear(0, 1, 2);
        c.is("18: 19 of them back", LAST - 19 * 60000, () -> y.place(0));
        c.is("8: just ahead of its last place it begins", true, () -> y.play(0));
    }

    private static void firstPlace(Checks c) {
        MixBooth x = standing();
        c.is("18: 0", 0, () -> x.place(0));
        c.is("13: in the beat 0", 0, () -> x.jump(0, 0));
        c.is("14: the nearest is 0", 0, () -> x.setCue(0, 0));
        c.is("15: from 0 on", 1, () -> x.loop(0, 0));
        c.is("52: 0 at least", 0, () -> x.skip(0, 1));
        c.is("8: it begins at 0", true, () -> x.play(0));
        x.go(1);
        c.is("18: a step", STEP, () -> x.place(0));
    }

    private static void beatOfPlace(Checks c) {
        MixBooth x = standing();
        Booths.toUnitAheadOf(x, 0, 80);
        c.is("13: one unit ahead of the beat 80 it is the beat 79", 79, () -> x.jump(0, 80));
        c.is("13: at its beginning it is the beat 80", 80, () -> x.jump(0, 99));
        Booths.toLastPlace(x, 0);
        c.is("13: the last place is in the last beat", 99, () -> x.jump(0, 0));
    }

    private static void cueAtEnds(Checks c) {
        MixBooth x = standing();
        Booths.toUnitAheadOf(x, 0, 90);
        c.is("14: one unit ahead of the beat 90", 90, () -> x.setCue(0, 0));
        x.play(0);
        x.go(25);
        c.is("14: one unit ahead of a half the nearest is behind", 90, () -> x.setCue(0, 0));
        x.jump(0, 90);
        x.go(25);
        c.is("14: at a half it is the later one", 91, () -> x.setCue(0, 0));
        x.go(24);
        c.is("14: nearly there", 91, () -> x.setCue(0, 0));
        x.jump(0, 98);
        x.go(25);
        c.is("14: the last one", 99, () -> x.setCue(0, 1));
        x.jump(0, 99);
        x.go(24);
        c.is("14: the nearest is the last one", 99, () -> x.setCue(0, 1));
        x.go(1);
        c.is("14: not behind the last one", 99, () -> x.setCue(0, 1));
        x.go(25);
        c.is("18: the last place", LAST, () -> x.place(0));
        c.is("14: not behind the last one, at the last place", 99, () -> x.setCue(0, 1));
        c.is("49: the cue is there", 1, () -> Booths.perform(x, "Ac1"));
        c.is("14: at the beginning of the beat", 99 * BEAT, () -> x.place(0));
    }

    private static void loopAtItsEnd(Checks c) {
        MixBooth x = standing();
        x.jump(0, 10);
        x.loop(0, 1);
        x.play(0);
        x.go(99);
        c.is("15: ahead of its end", 12 * BEAT - STEP, () -> x.place(0));
        x.go(1);
        c.is("15: at its end its length is taken off", 10 * BEAT, () -> x.place(0));
        MixBooth y = standing();
        Booths.toUnitAheadOf(y, 0, 90);
        c.is("15: from the beat 89 on", 90, () -> y.loop(0, 0));
        y.play(0);
        y.go(50);
        c.is("15: one unit ahead of its end it is not", 90 * BEAT - 1, () -> y.place(0));
        y.go(1);
        c.is("15: beyond its end it is", 89 * BEAT - 1 + STEP, () -> y.place(0));
    }

    private static void loopAtEndOfRecord(Checks c) {
        MixBooth x = standing();
        x.jump(0, 98);
        c.is("15: it ends with the record", 100, () -> x.loop(0, 1));
        x.play(0);
        c.is("30: it does not stop", 0, () -> x.go(2000));
        c.is("15: it is in the loop", 98 * BEAT, () -> x.place(0));
        x.out(0);
        c.is("30: without the loop it stops", 1, () -> x.go(100));
        c.is("18: at its last place", LAST, () -> x.place(0));
        c.is("15: a loop at the last place", 100, () -> x.loop(0, 0));
        c.is("8: it does not begin there, though there is a loop", false, () -> x.play(0));
    }

    private static void loopBeyondRecord(Checks c) {
        Class<IllegalStateException> beyond = IllegalStateException.class;
        for (int power = 0; power <= 6; power++) {
            int p = power;
            int length = 1 << power;
            MixBooth x = standing();
            x.jump(0, 100 - length);
            c.is("15: 2 to the power of " + p + " beats, up to the end", 100, () -> x.loop(0, p));
            x.out(0);
            if (power > 0) {
                x.jump(0, 101 - length);
                c.refused("15: a beat beyond the record, " + p, beyond, () -> x.loop(0, p));
                c.is("15: no loop is on", false, () -> x.out(0));
            }
        }
        MixBooth x = new MixBooth();
        Booths.plain(x, 63);
        Booths.plain(x, 64);
        x.load(0, 0);
        x.load(1, 1);
        c.refused("15: a record of 63 beats", beyond, () -> x.loop(0, 6));
        c.is("15: a record of 64 beats", 64, () -> x.loop(1, 6));
        MixBooth y = standing();
        Booths.toLastPlace(y, 0);
        c.refused("15: from the last place", beyond, () -> y.loop(0, 1));
    }

    private static void endOfSlip(Checks c) {
        MixBooth x = standing();
        x.play(0);
        x.go(10);
        x.slip(0, true);
        c.is("17: it ends at once", true, () -> x.slip(0, false));
        c.is("17: at first that of the deck", 10 * STEP, () -> x.place(0));
        x.slip(0, true);
        x.jump(0, 50);
        x.slip(0, false);
        c.is("17: no jump", 10 * STEP, () -> x.place(0));
        x.slip(0, true);
        x.jump(0, 50);
        x.setPitch(0, 100);
        x.nudge(0, 1);
        x.go(1);
        x.slip(0, false);
        c.is("17: it goes on by pitch and nudge", 10 * STEP + 1452000, () -> x.place(0));
        c.is("20: the deck plays on", true, () -> x.plays(0));
        x.go(1);
        c.is("18: from there", 10 * STEP + 1452000 + 1320000, () -> x.place(0));
    }

    private static void slipAtLastPlace(Checks c) {
        MixBooth x = standing();
        x.jump(0, 99);
        x.slip(0, true);
        x.play(0);
        x.loop(0, 0);
        x.go(49);
        x.slip(0, false);
        c.is("17: a step ahead of the end", 100 * BEAT - STEP, () -> x.place(0));
        x.jump(0, 99);
        x.slip(0, true);
        x.go(50);
        x.slip(0, false);
        c.is("17: up to the last place", LAST, () -> x.place(0));
        x.jump(0, 99);
        x.slip(0, true);
        x.go(500);
        x.slip(0, false);
        c.is("17: up to the last place, and no further", LAST, () -> x.place(0));
        x.out(0);
        x.go(1);
        c.is("20: there it stops", false, () -> x.plays(0));
        MixBooth y = standing();
        y.slip(0, true);
        y.jump(0, 99);
        y.play(0);
        y.go(60);
        c.is("20: the deck has stopped at the end", false, () -> y.plays(0));
        y.slip(0, false);
        c.is("17: the second place went on while it played", 50 * STEP, () -> y.place(0));
        c.is("8: from there it begins", true, () -> y.play(0));
    }

    private static void slipWithoutJumps(Checks c) {
        String[] jumps = {"jump", "cue", "needle", "sync", "ear", "loop"};
        for (String jump : jumps) {
            MixBooth x = standing();
            x.jump(0, 40);
            x.setCue(0, 0);
            x.play(1);
            x.go(13);
            x.stop(1);
            x.slip(0, true);
            x.play(0);
            x.go(7);
            switch (jump) {
                case "jump": x.jump(0, 3); break;
                case "cue": Booths.perform(x, "Ac0"); break;
                case "needle": x.skip(0, 9); break;
                case "sync": x.sync(0, 1); x.setPitch(0, 0); break;
                case "ear": x.ear(0, 1, 2); break;
                default: x.loop(0, 0); break;
            }
            x.go(60);
            long off = x.place(0);
            x.slip(0, false);
            c.is("17: another place by " + jump, true, () -> off != 40 * BEAT + 67 * STEP);
            c.is("17: as if there were no " + jump, 40 * BEAT + 67 * STEP, () -> x.place(0));
        }
    }

    private static void slipSetAgain(Checks c) {
        MixBooth x = standing();
        x.play(0);
        c.is("17: off, and it was off", false, () -> x.slip(0, false));
        c.is("17: on", false, () -> x.slip(0, true));
        x.go(5);
        x.jump(0, 30);
        c.is("17: on, and it was on", true, () -> x.slip(0, true));
        c.is("18: nothing changes", 30 * BEAT, () -> x.place(0));
        c.is("17: off", true, () -> x.slip(0, false));
        c.is("17: the second place is still the first one", 5 * STEP, () -> x.place(0));
        x.jump(0, 20);
        c.is("17: off, and it was off", false, () -> x.slip(0, false));
        c.is("18: nothing changes", 20 * BEAT, () -> x.place(0));
        c.is("17: on by a call, off by a move", 2, () -> Booths.perform(x, "Akk"));
        x.slip(0, true);
        x.jump(0, 70);
        c.is("49: the move ends the slip of a call", 1, () -> Booths.perform(x, "Ak"));
        c.is("17: where the deck is then", 20 * BEAT, () -> x.place(0));
    }

    private static void endOfNudge(Checks c) {
        int[] lengths = {1, 2, 200};
        for (int length : lengths) {
            for (int way = -1; way <= 1; way += 2) {
                int w = way;
                MixBooth x = standing();
                x.play(0);
                x.nudge(0, way * length);
                x.go(length);
                long at = length * (STEP + way * STEP / 10);
                c.is("11: a tenth for " + way * length, at, () -> x.place(0));
                x.go(1);
                c.is("11: behind " + w * length, at + STEP, () -> x.place(0));
                c.is("11: nothing is left", 0, () -> x.nudge(0, 0));
            }
        }
        MixBooth x = standing();
        x.play(0);
        x.nudge(0, 7);
        x.go(3);
        x.stop(0);
        x.go(100);
        c.is("11: ticks in which it stands are none of it", 4, () -> x.nudge(0, -7));
        x.play(0);
        x.go(6);
        c.is("11: one slow tick is left", -1, () -> x.nudge(0, 0));
        x.jump(0, 99);
        x.nudge(0, 200);
        x.go(100);
        c.is("20: it has stopped at its end, behind 46 ticks", false, () -> x.plays(0));
        c.is("11: those in which it played are gone", 154, () -> x.nudge(0, 0));
    }

    private static void endOfBrake(Checks c) {
        MixBooth x = standing();
        x.play(0);
        x.brake(0);
        long at = 0;
        for (int tick = 1; tick <= 50; tick++) {
            x.go(1);
            int halves = (tick + 9) / 10;
            at += STEP >> halves;
            long due = at;
            c.is("12: tick " + tick + " of the brake", due, () -> x.place(0));
            c.is("12: it stands behind 50 ticks", tick < 50, () -> x.plays(0));
        }
        x.go(50);
        long due = at;
        c.is("12: it stands", due, () -> x.place(0));
        c.is("12: it does not play", false, () -> x.brake(0));
        c.is("8: it begins again", true, () -> x.play(0));
        x.go(1);
        c.is("8: and takes the brake off", due + STEP, () -> x.place(0));
        c.is("54: a brake on a deck that stands is an act, too", true, () -> x.logged() > 60);
        brakeLeaves(c);
    }

    private static void brakeLeaves(Checks c) {
        MixBooth x = standing();
        x.play(0);
        x.loop(0, 1);
        x.slip(0, true);
        x.jump(0, 1);
        x.nudge(0, -70);
        x.brake(0);
        x.go(60);
        long slow = 10 * (1080000 / 2 + 1080000 / 4 + 1080000 / 8 + 1080000 / 16 + 1080000 / 32);
        c.is("12: it stands", BEAT + slow, () -> x.place(0));
        c.is("11: 50 ticks of the nudge are gone", -20, () -> x.nudge(0, 0));
        c.is("16: the loop is still on", true, () -> x.out(0));
        c.is("17: slip is still on", true, () -> x.slip(0, false));
        c.is("17: its second place braked, too", slow, () -> x.place(0));
    }

    private static void brakeFromBeginning(Checks c) {
        int[] braked = {1, 10, 11, 49};
        for (int ticks : braked) {
            MixBooth x = standing();
            x.play(0);
            x.brake(0);
            x.go(ticks);
            long place = x.place(0);
            c.is("12: it brakes already", true, () -> x.brake(0));
            x.go(10);
            c.is("12: from the beginning", place + 10 * (STEP / 2), () -> x.place(0));
            x.go(39);
            c.is("12: 49 of 50 ticks", true, () -> x.plays(0));
            x.go(1);
            c.is("12: 50 ticks again", false, () -> x.plays(0));
        }
    }

    private static void brakeTakenOff(Checks c) {
        MixBooth x = standing();
        x.play(0);
        x.brake(0);
        x.go(49);
        long place = x.place(0);
        c.is("8: it plays already", false, () -> x.play(0));
        x.go(60);
        c.is("8: the brake is off", place + 60 * STEP, () -> x.place(0));
        c.is("20: so it does not stand", true, () -> x.plays(0));
        x.brake(0);
        x.go(20);
        x.stop(0);
        long then = x.place(0);
        x.play(0);
        x.go(60);
        c.is("9: none behind a stop", then + 60 * STEP, () -> x.place(0));
    }

    private static void brakeAtEndOfRecord(Checks c) {
        MixBooth x = standing();
        x.jump(0, 99);
        x.play(0);
        x.go(49);
        x.brake(0);
        x.go(1);
        c.is("12: half a step ahead of the end", 100 * BEAT - STEP / 2, () -> x.place(0));
        x.go(1);
        c.is("18: the end is the end of a brake, too", LAST, () -> x.place(0));
        c.is("20: it stops", false, () -> x.plays(0));
        x.jump(0, 0);
        x.play(0);
        x.go(1);
        c.is("12: the brake is off then", STEP, () -> x.place(0));
    }

    private static void syncBelowFirst(Checks c) {
        MixBooth x = standing();
        Booths.toUnitAheadOf(x, 1, 90);
        c.is("36: one unit back would be below 0", 0, () -> x.sync(0, 1));
        c.is("36: so it is a beat further on", BEAT - 1, () -> x.place(0));
        MixBooth y = standing();
        y.play(0);
        y.go(10);
        y.stop(0);
        y.sync(0, 1);
        c.is("36: 0 itself is not below 0", 0, () -> y.place(0));
        y.play(1);
        y.go(25);
        y.stop(1);
        y.sync(0, 1);
        c.is("36: half a beat back would be below 0", BEAT / 2, () -> y.place(0));
        y.sync(0, 1);
        c.is("36: alike, nothing changes", BEAT / 2, () -> y.place(0));
        y.jump(1, 0);
        y.sync(0, 1);
        c.is("36: half a beat, back if both are alike", 0, () -> y.place(0));
    }

    private static void syncBehindLast(Checks c) {
        MixBooth x = standing();
        Booths.toLastPlace(x, 0);
        x.sync(0, 1);
        c.is("36: one unit on would be behind the last place", 99 * BEAT, () -> x.place(0));
        MixBooth y = standing();
        Booths.toUnitAheadOf(y, 1, 90);
        y.jump(0, 99);
        y.play(0);
        y.go(30);
        y.stop(0);
        y.sync(0, 1);
        c.is("36: the last place itself is not behind it", LAST, () -> y.place(0));
        c.is("8: there it does not begin", false, () -> y.play(0));
        y.sync(0, 1);
        c.is("36: alike, nothing changes", LAST, () -> y.place(0));
    }

    /** By ear, deck 0 in its first beat, deck 1 at the beginning of a beat. */
    private static MixBooth aheadByTicks(int ticks) {
        MixBooth x = standing();
        x.play(0);
        Booths.goFar(x, ticks);
        x.stop(0);
        return x;
    }

    private static void earAtFirst(Checks c) {
        c.is("37: nothing in the first round", 100, () -> aheadByTicks(5).ear(0, 1, 1));
        c.is("37: half of it in the second", 50, () -> aheadByTicks(5).ear(0, 1, 2));
        MixBooth x = aheadByTicks(5);
        c.is("37: all of it in the third", 0, () -> x.ear(0, 1, 3));
        c.is("37: at 0", 0, () -> x.place(0));
        MixBooth y = aheadByTicks(5);
        c.is("37: 0 is the end: 25 more are not taken off", 0, () -> y.ear(0, 1, 4));
        c.is("37: still at 0", 0, () -> y.place(0));
        MixBooth z = aheadByTicks(0);
        Booths.toUnitAheadOf(z, 1, 90);
        c.is("37: one unit ahead is 0 thousandths", 0, () -> z.ear(0, 1, 10));
        c.is("37: so it stays", 0, () -> z.place(0));
        c.is("37: one unit behind is -1, half of it is 0", -1, () -> z.ear(1, 0, 10));
        c.is("37: so it stays, too", 90 * BEAT - 1, () -> z.place(1));
    }

    private static void earAtLast(Checks c) {
        MixBooth x = standing();
        Booths.toLastPlace(x, 0);
        x.play(1);
        x.go(10);
        x.stop(1);
        c.is("35: 200 behind, and one unit", -201, () -> x.between(0, 1));
        c.is("37: the last place is its end", -201, () -> x.ear(0, 1, 10));
        c.is("18: there it is", LAST, () -> x.place(0));
        MixBooth y = standing();
        y.jump(0, 99);
        y.play(0);
        y.go(49);
        y.stop(0);
        y.play(1);
        y.go(1);
        y.stop(1);
        c.is("35: 40 behind", -40, () -> y.between(0, 1));
        c.is("37: 20 on would be the end, it is one unit ahead", -21, () -> y.ear(0, 1, 2));
        c.is("18: the last place", LAST, () -> y.place(0));
    }

    private static void needleAtFirst(Checks c) {
        MixBooth x = standing();
        x.jump(0, 32);
        c.is("52: 32 beats back from the beat 32", 0, () -> x.skip(0, 32));
        x.jump(0, 31);
        c.is("52: 0 at least", 0, () -> x.skip(0, 32));
        x.play(0);
        x.go(49);
        c.is("52: 0 at least, from the first beat", 0, () -> x.skip(0, 1));
        x.go(51);
        c.is("52: a beat back", STEP, () -> x.skip(0, 1));
        Booths.toLastPlace(x, 0);
        c.is("52: from the last place", LAST - 32 * BEAT, () -> x.skip(0, 32));
        x.jump(0, 20);
        x.loop(0, 2);
        x.jump(0, 22);
        c.is("52: a needle jumps out of a loop", 15 * BEAT, () -> x.skip(0, 7));
        x.play(0);
        x.go(1);
        c.is("15: a place ahead of the loop is none at its end", 15 * BEAT + STEP, () -> x.place(0));
    }

    private static void stickAtLastPlace(Checks c) {
        MixBooth x = standing();
        for (int deck = 0; deck < 3; deck++) {
            Booths.toLastPlace(x, deck);
        }
        c.is("53: the one that is not at its last place", 3, () -> x.loseStick(1));
        x.stop(3);
        x.load(1, 0);
        x.load(3, 0);
        x.skip(0, 1);
        c.is("53: the first one again, a beat ahead", 0, () -> x.loseStick(3));
        c.is("20: it plays", true, () -> x.plays(0));
        c.is("20: the other one does not", false, () -> x.plays(1));
    }
}
