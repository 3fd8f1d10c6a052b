import java.util.NoSuchElementException;

/** Promises 45 and 46: the row of records that has the least cost. */
public final class SearchTest {
    private static final Class<IllegalArgumentException> WRONG = IllegalArgumentException.class;
    private static final Class<IndexOutOfBoundsException> NO_SUCH = IndexOutOfBoundsException.class;
    private static final Class<UnsupportedOperationException> EMPTY = UnsupportedOperationException.class;
    private static final Class<NoSuchElementException> TOO_FEW = NoSuchElementException.class;

    private SearchTest() {
    }

    public static void main(String[] args) {
        Checks c = new Checks("SearchTest");
        steps(c);
        rows(c);
        ties(c);
        requests(c);
        leftOut(c);
        playedOut(c);
        refused(c);
        manyRecords(c);
        c.end();
    }

    private static int costTo(int tempo, int key, int energy) {
        MixBooth x = new MixBooth();
        x.addRecord(1200, 16, 0, 3, 8, 0, 0);
        x.addRecord(tempo, 16, key, energy, 8, 0, 0);
        x.load(2, 0);
        x.setPitch(2, 100);
        return x.cost(2, 1);
    }

    private static void steps(Checks c) {
        c.is("46: alike", 0, () -> costTo(1200, 0, 3));
        c.is("46: keys", 60, () -> costTo(1200, 6, 3));
        c.is("46: the other ring", 10, () -> costTo(1200, 12, 3));
        c.is("46: energies", 24, () -> costTo(1200, 0, 9));
        c.is("46: energies below", 12, () -> costTo(1200, 0, 0));
        c.is("46: tempos, cut", 0, () -> costTo(1209, 0, 3));
        c.is("46: tempos", 1, () -> costTo(1210, 0, 3));
        c.is("46: tempos below, cut", 0, () -> costTo(1191, 0, 3));
        c.is("46: tempos far off", 80, () -> costTo(2000, 0, 3));
        c.is("46: all together", 20 + 8 + 2, () -> costTo(1180, 23, 5) - 0);
    }

    private static void rows(Checks c) {
        MixBooth x = new MixBooth();
        int[] keys = {0, 1, 6, 5, 11};
        for (int key : keys) {
            x.addRecord(1200, 16, key, 3, 8, 0, 0);
        }
        x.load(0, 0);
        c.is("45: one ahead", 1, () -> x.next(0, 1));
        c.is("46: one ahead", 10, () -> x.cost(0, 1));
        c.is("45: two ahead", 1, () -> x.next(0, 2));
        c.is("46: two ahead", 10 + 20, () -> x.cost(0, 2));
        c.is("45: three ahead", 1, () -> x.next(0, 3));
        c.is("46: three ahead: 1, 3, 2", 10 + 40 + 10, () -> x.cost(0, 3));
        c.is("45: four ahead begins elsewhere", 4, () -> x.next(0, 4));
        c.is("46: four ahead: 4, 1, 3, 2", 10 + 20 + 40 + 10, () -> x.cost(0, 4));
        c.is("45: a question", 6, x::logged);
    }

    private static void ties(Checks c) {
        MixBooth x = new MixBooth();
        int[] keys = {0, 11, 1, 11, 1};
        for (int key : keys) {
            x.addRecord(1200, 16, key, 3, 8, 0, 0);
        }
        x.load(3, 0);
        c.is("45: of several the first", 1, () -> x.next(3, 1));
        c.is("45: of several rows the first", 1, () -> x.next(3, 2));
        x.ban(1, true);
        c.is("45: the first that is left", 2, () -> x.next(3, 1));
        x.ban(3, true);
        x.ban(2, true);
        c.is("45: the last one", 4, () -> x.next(3, 1));
    }

    private static void requests(Checks c) {
        MixBooth x = new MixBooth();
        x.addRecord(1200, 16, 0, 3, 8, 0, 0);
        x.addRecord(1200, 16, 0, 3, 8, 0, 0);
        x.addRecord(1200, 16, 1, 4, 8, 0, 0);
        x.load(0, 0);
        c.is("45: without a request", 1, () -> x.next(0, 1));
        x.request(2);
        c.is("45: a request", 2, () -> x.next(0, 1));
        c.is("46: 15 less", -1, () -> x.cost(0, 1));
        c.is("46: 15 less once", 14 - 15, () -> x.cost(0, 2));
        x.request(0);
        c.is("46: that on the deck does not count", -1, () -> x.cost(0, 1));
        x.request(1);
        c.is("45: both", 1, () -> x.next(0, 1));
        c.is("46: both", 14 - 30, () -> x.cost(0, 2));
    }

    private static void leftOut(Checks c) {
        MixBooth x = new MixBooth();
        for (int i = 0; i < 4; i++) {
            x.addRecord(1200, 16, i, 3, 8, 0, 0);
        }
        x.load(0, 0);
        x.load(3, 1);
        c.is("45: none that is on a deck", 2, () -> x.next(0, 1));
        c.is("45: from another deck", 2, () -> x.next(3, 1));
        c.refused("45: not so many", TOO_FEW, () -> x.next(0, 3));
        c.refused("46: not so many", TOO_FEW, () -> x.cost(0, 3));
        x.ban(2, true);
        c.is("45: none that is banned", 3, () -> x.next(0, 1));
        c.refused("45: none twice", TOO_FEW, () -> x.next(0, 2));
        x.ban(2, false);
        c.is("45: not banned any more", 2, () -> x.next(0, 1));
        x.loseStick(3);
        c.is("45: off the deck", 1, () -> x.next(0, 1));
    }

    private static void playedOut(Checks c) {
        MixBooth x = new MixBooth();
        x.addRecord(600, 99, 0, 3, 8, 0, 0);
        x.addRecord(600, 99, 0, 3, 8, 0, 0);
        x.load(0, 0);
        x.setFader(0, 30);
        x.play(0);
        x.go(999);
        x.load(1, 1);
        x.stop(0);
        x.load(0, 1);
        c.is("45: heard for less than 10 seconds", 0, () -> x.next(1, 1));
        x.load(0, 0);
        x.play(0);
        x.go(1);
        x.stop(0);
        x.load(0, 1);
        c.is("40: 10 seconds", 10, () -> x.seconds(0));
        c.refused("45: heard for 10 seconds", TOO_FEW, () -> x.next(1, 1));
    }

    private static void refused(Checks c) {
        MixBooth x = new MixBooth();
        Booths.plain(x, 16);
        x.load(0, 0);
        c.refused("45: no record is left", TOO_FEW, () -> x.next(0, 1));
        c.refused("45: below", WRONG, () -> x.next(0, 0));
        c.refused("45: above", WRONG, () -> x.next(0, 5));
        c.refused("45: empty", EMPTY, () -> x.next(1, 4));
        c.refused("45: the number is looked at first", WRONG, () -> x.next(1, 5));
        c.refused("45: the deck is looked at first", NO_SUCH, () -> x.next(4, 5));
        c.refused("45: no such deck", NO_SUCH, () -> x.next(-1, 1));
        c.refused("46: no record is left", TOO_FEW, () -> x.cost(0, 1));
        c.refused("46: below", WRONG, () -> x.cost(0, 0));
        c.refused("46: above", WRONG, () -> x.cost(0, 5));
        c.refused("46: empty", EMPTY, () -> x.cost(1, 4));
        c.refused("46: the number is looked at first", WRONG, () -> x.cost(1, 0));
        c.refused("46: the deck is looked at first", NO_SUCH, () -> x.cost(4, 5));
        c.refused("46: no such deck", NO_SUCH, () -> x.cost(-1, 1));
    }

    private static void manyRecords(Checks c) {
        MixBooth x = new MixBooth();
        for (int i = 0; i < 12; i++) {
            x.addRecord(1200, 16, (12 - i) % 12, 3, 8, 0, 0);
        }
        x.load(0, 0);
        c.is("45: four of eleven", 1, () -> x.next(0, 4));
        c.is("46: four of eleven", 40, () -> x.cost(0, 4));
        x.ban(2, true);
        c.is("45: the other way round", 11, () -> x.next(0, 4));
    }
}
