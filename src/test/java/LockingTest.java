/** Promises 35 to 37: how far decks are apart, by sync and by ear. */
public final class LockingTest {
    private static final Class<IllegalArgumentException> WRONG = IllegalArgumentException.class;
    private static final Class<IndexOutOfBoundsException> NO_SUCH = IndexOutOfBoundsException.class;
    private static final Class<UnsupportedOperationException> CANNOT = UnsupportedOperationException.class;
    private static final long BEAT = 60000000L;

    private LockingTest() {
    }

    public static void main(String[] args) {
        Checks c = new Checks("LockingTest");
        between(c);
        syncPitch(c);
        syncPlace(c);
        syncAtEnds(c);
        syncRefused(c);
        ear(c);
        earAtEnds(c);
        earRefused(c);
        lockingInSlip(c);
        c.end();
    }

    /** Decks 0 and 1 at the places told in ticks of a 50th of a beat; deck 0 in its beat 10. */
    private static MixBooth at(int ticks, int otherTicks) {
        MixBooth x = new MixBooth();
        Booths.plain(x, 99);
        for (int deck = 0; deck < 2; deck++) {
            x.load(deck, 0);
            int far = deck == 0 ? ticks : otherTicks;
            x.jump(deck, 10);
            if (far > 0) {
                x.play(deck);
                x.go(far);
                x.stop(deck);
            }
        }
        return x;
    }

    private static void between(Checks c) {
        c.is("35: alike", 0, () -> at(7, 7).between(0, 1));
        c.is("35: ahead", 140, () -> at(7, 0).between(0, 1));
        c.is("35: behind", -140, () -> at(7, 0).between(1, 0));
        c.is("35: 499 and less", 480, () -> at(24, 0).between(0, 1));
        c.is("35: half a beat counts as behind", -500, () -> at(25, 0).between(0, 1));
        c.is("35: from both sides", -500, () -> at(25, 0).between(1, 0));
        c.is("35: modulo a beat", 20, () -> at(101, 0).between(0, 1));
        c.is("35: the same deck", 0, () -> at(7, 0).between(0, 0));
        MixBooth x = at(0, 0);
        x.setPitch(0, 1);
        x.play(0);
        x.play(1);
        x.go(99);
        c.is("35: cut", 99 * 1200 / 60000, () -> x.between(0, 1));
        c.is("35: cut downwards behind", -2, () -> x.between(1, 0));
        c.refused("35: one is empty", CANNOT, () -> x.between(0, 2));
        c.refused("35: the other is empty", CANNOT, () -> x.between(2, 0));
        c.refused("35: no such deck", NO_SUCH, () -> x.between(4, 2));
        c.refused("35: no such other", NO_SUCH, () -> x.between(2, 4));
        c.refused("35: no such other", NO_SUCH, () -> x.between(0, -1));
    }

    private static void syncPitch(Checks c) {
        MixBooth x = new MixBooth();
        x.addRecord(1000, 99, 0, 3, 8, 0, 0);
        x.addRecord(2000, 99, 0, 3, 8, 0, 0);
        x.addRecord(600, 99, 0, 3, 8, 0, 0);
        x.addRecord(1001, 99, 0, 3, 8, 0, 0);
        x.load(0, 0);
        x.load(1, 1);
        x.load(2, 2);
        x.load(3, 3);
        x.setPitch(1, 1);
        c.is("36: as fast as can be", 160, () -> x.sync(0, 1));
        c.is("36: as slow as can be", -160, () -> x.sync(0, 2));
        c.is("36: the pitch is taken", 840000, () -> x.tempo(0));
        c.is("36: the nearest", 1, () -> x.sync(0, 3));
        x.setPitch(3, 99);
        c.is("36: with the pitch of the other one", 100, () -> x.sync(0, 3));
        c.is("36: the other one keeps its own", 99, () -> x.setPitch(3, 0));
        x.loseStick(0);
        x.loseStick(1);
        x.load(0, 1);
        x.load(1, 0);
        x.setPitch(0, 0);
        x.setPitch(1, 0);
        c.is("36: down to the end", -160, () -> x.sync(0, 1));
        MixBooth y = new MixBooth();
        y.addRecord(2000, 99, 0, 3, 8, 0, 0);
        y.addRecord(1999, 99, 0, 3, 8, 0, 0);
        y.load(0, 0);
        y.load(1, 1);
        // 1999 times 1000 lies halfway between 2000 times 999 and 2000 times 1000.
        c.is("36: of two the lower one", -1, () -> y.sync(0, 1));
        c.is("36: the tempo by it", 1998000, () -> y.tempo(0));
    }

    private static long synced(int ticks, int otherTicks) {
        MixBooth x = at(ticks, otherTicks);
        x.sync(0, 1);
        return x.place(0);
    }

    private static void syncPlace(Checks c) {
        long beat = 10 * BEAT;
        c.is("36: alike", beat, () -> synced(0, 0));
        c.is("36: on", beat + 24 * 1200000, () -> synced(0, 24));
        c.is("36: back if both are alike", beat - 25 * 1200000, () -> synced(0, 25));
        c.is("36: back", beat - 24 * 1200000, () -> synced(0, 26));
        c.is("36: back within the beat", beat + 1200000, () -> synced(20, 1));
        c.is("36: on into the next beat", beat + 50 * 1200000, () -> synced(40, 0));
        c.is("36: back if both are alike, from the middle", beat, () -> synced(25, 0));
        MixBooth x = at(40, 5);
        x.setPitch(0, -160);
        c.is("36: its pitch", 0, () -> x.sync(0, 1));
        c.is("36: the other one stays", beat + 5 * 1200000, () -> x.place(1));
        c.is("35: they are together then", 0, () -> x.between(0, 1));
        c.is("36: it does not begin to play", false, () -> x.plays(0));
    }

    private static void syncAtEnds(Checks c) {
        MixBooth x = at(0, 40);
        x.jump(0, 0);
        x.sync(0, 1);
        c.is("36: a beat further on, below 0", 40 * 1200000, () -> x.place(0));
        MixBooth y = at(40, 0);
        y.skip(0, 32);
        y.load(0, 0);
        y.jump(0, 98);
        y.play(0);
        y.go(49);
        y.stop(0);
        y.sync(0, 1);
        c.is("36: a beat back, behind the last place", 98 * BEAT, () -> y.place(0));
    }

    private static void syncRefused(Checks c) {
        MixBooth x = at(3, 9);
        c.refused("36: the same", CANNOT, () -> x.sync(0, 0));
        c.refused("36: empty", CANNOT, () -> x.sync(2, 0));
        c.refused("36: the other is empty", CANNOT, () -> x.sync(0, 2));
        c.refused("36: no such deck", NO_SUCH, () -> x.sync(4, 4));
        c.refused("36: no such other", NO_SUCH, () -> x.sync(2, -1));
        c.is("36: nothing has changed", 10 * BEAT + 3 * 1200000, () -> x.place(0));
    }

    private static int heardBy(int ticks, int rounds) {
        return at(ticks, 0).ear(0, 1, rounds);
    }

    private static void ear(Checks c) {
        int[] due = {100, 50, 0, -25, -25, -13, -1, 5, 5, 3};
        // 100: nothing; 50 off; 50 off; 25 off; 0 off; then -25 heard gives 12 back, and so on.
        int apart = 100;
        int before = 0;
        int[] model = new int[10];
        for (int round = 0; round < 10; round++) {
            int now = apart;
            apart -= before / 2;
            before = now;
            model[round] = apart;
        }
        for (int rounds = 1; rounds <= 10; rounds++) {
            int r = rounds;
            c.is("37: " + r + " rounds", model[r - 1], () -> heardBy(5, r));
        }
        for (int rounds = 1; rounds <= 6; rounds++) {
            int r = rounds;
            c.is("37: by hand, " + r + " rounds", due[r - 1], () -> heardBy(5, r));
        }
        c.is("37: from half a beat, the other way", -250, () -> heardBy(25, 2));
        MixBooth x = at(5, 0);
        x.setPitch(0, 7);
        x.go(3);
        x.ear(0, 1, 2);
        c.is("37: the place", 10 * BEAT + 3000000, () -> x.place(0));
        c.is("37: the pitch stays", 7, () -> x.setPitch(0, 0));
        c.is("37: the night stands still", 8, x::ticks);
        c.is("37: the other one stays", 10 * BEAT, () -> x.place(1));
        c.is("37: half of 3 is 1", 2, () -> threeAhead().ear(0, 1, 2));
        c.is("37: half of -3 is -1", -2, () -> threeAhead().ear(1, 0, 2));
    }

    private static MixBooth threeAhead() {
        MixBooth x = at(0, 0);
        x.setPitch(0, 1);
        x.play(0);
        x.play(1);
        x.go(150);
        return x;
    }

    private static void earAtEnds(Checks c) {
        MixBooth x = at(0, 49);
        x.jump(0, 0);
        x.play(0);
        x.go(10);
        x.stop(0);
        x.skip(1, 10);
        c.is("37: 220 ahead", 220, () -> x.between(0, 1));
        c.is("37: takes half off", 110, () -> x.ear(0, 1, 2));
        c.is("37: the rest of the place", 5400000, () -> x.place(0));
        c.is("37: 0 is the end of that", 20, () -> x.ear(0, 1, 3));
        c.is("37: at 0", 0, () -> x.place(0));
        MixBooth y = at(20, 0);
        y.jump(1, 98);
        y.play(1);
        y.go(49);
        y.stop(1);
        c.is("37: 420 behind", -420, () -> y.between(1, 0));
        c.is("37: towards the last place", -401, () -> y.ear(1, 0, 2));
        c.is("37: the last place is the end of that", 99 * BEAT - 1, () -> y.place(1));
    }

    private static void earRefused(Checks c) {
        MixBooth x = at(3, 9);
        c.refused("37: below", WRONG, () -> x.ear(0, 1, 0));
        c.refused("37: above", WRONG, () -> x.ear(0, 1, 11));
        c.refused("37: the same", CANNOT, () -> x.ear(0, 0, 3));
        c.refused("37: empty", CANNOT, () -> x.ear(2, 0, 3));
        c.refused("37: the other is empty", CANNOT, () -> x.ear(0, 2, 3));
        c.refused("37: the number is looked at ahead of the decks' records", WRONG, () -> x.ear(2, 2, 0));
        c.refused("37: no such deck", NO_SUCH, () -> x.ear(4, 0, 0));
        c.refused("37: no such other", NO_SUCH, () -> x.ear(0, 4, 0));
        c.is("37: nothing has changed", 10 * BEAT + 3 * 1200000, () -> x.place(0));
    }

    private static void lockingInSlip(Checks c) {
        MixBooth x = at(5, 0);
        x.slip(0, true);
        x.ear(0, 1, 2);
        x.sync(0, 1);
        x.slip(0, false);
        c.is("17: no jump, of whatever kind", 10 * BEAT + 5 * 1200000, () -> x.place(0));
    }
}
