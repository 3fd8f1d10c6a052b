/** Promises 1 to 6: a new object and the records. */
public final class RecordsTest {
    private static final Class<IllegalArgumentException> WRONG = IllegalArgumentException.class;
    private static final Class<IndexOutOfBoundsException> NO_SUCH = IndexOutOfBoundsException.class;

    private RecordsTest() {
    }

    public static void main(String[] args) {
        Checks c = new Checks("RecordsTest");
        newObject(c);
        addRecord(c);
        correct(c);
        apart(c);
        ban(c);
        request(c);
        c.end();
    }

    private static void newObject(Checks c) {
        MixBooth x = new MixBooth();
        c.is("1: ticks", 0, x::ticks);
        c.is("1: heard", 0, x::heard);
        c.is("1: silence", 0, x::silence);
        c.is("1: logged", 0, x::logged);
        c.is("1: people", 120, () -> x.people(-1));
        c.is("1: tired", 0, () -> x.tired(5));
        c.is("1: breaches", 0, x::breaches);
        c.refused("1: no record", NO_SUCH, () -> x.seconds(0));
        for (int deck = 0; deck < 4; deck++) {
            int d = deck;
            c.is("1: plays", false, () -> x.plays(d));
            c.is("1: level", 0, () -> x.level(d));
            c.refused("1: the deck is empty", java.util.NoSuchElementException.class, () -> x.on(d));
        }
        c.is("1: isSound", true, x::isSound);
        MixBooth other = new MixBooth();
        Booths.plain(other, 16);
        c.refused("1: booths are apart", NO_SUCH, () -> x.seconds(0));
    }

    private static void addRecord(Checks c) {
        MixBooth x = new MixBooth();
        c.is("2: least", 0, () -> x.addRecord(600, 16, 0, 0, 8, 0, 0));
        c.is("2: most", 1, () -> x.addRecord(2000, 999, 23, 9, 32, 65535, 65535));
        c.is("2: phrase 16", 2, () -> x.addRecord(2000, 999, 23, 9, 16, 65535, 65535));
        int[][] wrong = {
            {599, 16, 0, 0, 8, 0, 0}, {2001, 16, 0, 0, 8, 0, 0}, {600, 15, 0, 0, 8, 0, 0}, {600, 1000, 0, 0, 8, 0, 0},
            {600, 16, -1, 0, 8, 0, 0}, {600, 16, 24, 0, 8, 0, 0}, {600, 16, 0, -1, 8, 0, 0}, {600, 16, 0, 10, 8, 0, 0},
            {600, 16, 0, 0, 0, 0, 0}, {600, 16, 0, 0, 9, 0, 0}, {600, 16, 0, 0, 24, 0, 0}, {600, 16, 0, 0, 64, 0, 0},
            {600, 16, 0, 0, 8, -1, 0}, {600, 16, 0, 0, 8, 65536, 0}, {600, 16, 0, 0, 8, 0, -1},
            {600, 16, 0, 0, 8, 0, 65536}, {600, 16, 0, 0, -8, 0, 0}};
        for (int[] w : wrong) {
            c.refused("2: out of range", WRONG, () -> x.addRecord(w[0], w[1], w[2], w[3], w[4], w[5], w[6]));
        }
        c.is("2: refused ones are not there", 3, () -> Booths.plain(x, 16));
        for (int i = 4; i < 12; i++) {
            c.is("2: the number", i, () -> Booths.plain(x, 16));
        }
        c.refused("2: there are 12", IllegalStateException.class, () -> Booths.plain(x, 16));
        c.refused("2: the range is looked at first", WRONG, () -> x.addRecord(1, 16, 0, 0, 8, 0, 0));
        c.is("2: refused ones are not logged", 12, x::logged);
        c.is("2: the last one is there", 0, () -> x.seconds(11));
    }

    private static void correct(Checks c) {
        MixBooth x = new MixBooth();
        x.addRecord(700, 16, 0, 0, 8, 0, 0);
        x.addRecord(800, 16, 0, 0, 8, 0, 0);
        x.load(3, 1);
        c.is("3: the one before", 700, () -> x.correct(0, 600));
        c.is("3: the one before, again", 600, () -> x.correct(0, 2000));
        c.refused("3: no such record", NO_SUCH, () -> x.correct(2, 1));
        c.refused("3: no such record", NO_SUCH, () -> x.correct(-1, 700));
        c.refused("3: below", WRONG, () -> x.correct(1, 599));
        c.refused("3: above", WRONG, () -> x.correct(1, 2001));
        c.refused("3: on a deck", UnsupportedOperationException.class, () -> x.correct(1, 900));
        c.is("3: unchanged", 800000, () -> x.tempo(3));
        x.loseStick(3);
        c.is("3: off the deck", 800, () -> x.correct(1, 900));
        x.load(0, 1);
        c.is("3: the deck goes by it", 900000, () -> x.tempo(0));
    }

    private static void apart(Checks c) {
        MixBooth x = new MixBooth();
        int[] keys = {0, 6, 7, 11, 12, 23, 5, 17};
        for (int key : keys) {
            x.addRecord(600, 16, key, 0, 8, 0, 0);
        }
        c.is("4: the same", 0, () -> x.apart(0, 0));
        c.is("4: half a ring", 6, () -> x.apart(0, 1));
        c.is("4: the shorter way", 5, () -> x.apart(0, 2));
        c.is("4: neighbours round the end", 1, () -> x.apart(0, 3));
        c.is("4: the other ring", 1, () -> x.apart(0, 4));
        c.is("4: the other ring, one off", 2, () -> x.apart(0, 5));
        c.is("4: both on the outer ring", 1, () -> x.apart(4, 5));
        c.is("4: far off on the other ring", 7, () -> x.apart(3, 7));
        c.is("4: either way", 5, () -> x.apart(2, 0));
        c.refused("4: no such record", NO_SUCH, () -> x.apart(8, 0));
        c.refused("4: no such other", NO_SUCH, () -> x.apart(0, 8));
        c.refused("4: below", NO_SUCH, () -> x.apart(0, -1));
        c.refused("4: far below", NO_SUCH, () -> x.apart(Integer.MIN_VALUE, 0));
        c.is("4: a question", 8, x::logged);
    }

    private static void ban(Checks c) {
        MixBooth x = new MixBooth();
        Booths.plain(x, 16);
        c.is("5: not at first", false, () -> x.ban(0, true));
        c.is("5: banned", true, () -> x.ban(0, true));
        c.is("5: lifted", true, () -> x.ban(0, false));
        c.is("5: not any more", false, () -> x.ban(0, false));
        c.refused("5: no such record", NO_SUCH, () -> x.ban(1, true));
        c.refused("5: no such record", NO_SUCH, () -> x.ban(-1, true));
        c.is("5: logged each time", 5, x::logged);
    }

    private static void request(Checks c) {
        MixBooth x = new MixBooth();
        Booths.plain(x, 16);
        Booths.plain(x, 16);
        c.is("6: new", true, () -> x.request(0));
        c.is("6: not new", false, () -> x.request(0));
        c.is("6: another one", true, () -> x.request(1));
        c.refused("6: no such record", NO_SUCH, () -> x.request(2));
        c.refused("6: no such record", NO_SUCH, () -> x.request(-1));
        c.is("6: logged each time", 5, x::logged);
    }
}
