import java.util.NoSuchElementException;

/** Full: as many records, effects, signs, people and calls as there may be, and one more. */
public final class FullTest {
    private static final Class<IllegalArgumentException> WRONG = IllegalArgumentException.class;
    private static final Class<IllegalStateException> FULL = IllegalStateException.class;

    private FullTest() {
    }

    public static void main(String[] args) {
        Checks c = new Checks("FullTest");
        twelveRecords(c);
        threeEffects(c);
        thirtySigns(c);
        fullTexts(c);
        groupOfForty(c);
        groupOfNobody(c);
        tiredOut(c);
        loudness(c);
        loudTails(c);
        fourRows(c);
        allRecordsInRows(c);
        allCalls(c);
        c.end();
    }

    private static void twelveRecords(Checks c) {
        MixBooth x = new MixBooth();
        for (int i = 0; i < 12; i++) {
            int number = i;
            c.is("2: its number", number, () -> x.addRecord(600 + number, 16, number, 0, 8, 0, 0));
        }
        c.refused("2: there are 12", FULL, () -> x.addRecord(600, 16, 0, 0, 8, 0, 0));
        c.refused("2: there are 12, still", FULL, () -> x.addRecord(600, 16, 0, 0, 8, 0, 0));
        c.refused("40: and no 13th", IndexOutOfBoundsException.class, () -> x.seconds(12));
        c.is("54: 12 acts", 12, x::logged);
        for (int i = 0; i < 12; i++) {
            int number = i;
            c.is("3: each of its own", 600 + number, () -> x.correct(number, 2000));
            c.is("5: each of its own", false, () -> x.ban(number, true));
            c.is("6: each of its own", true, () -> x.request(number));
            c.is("4: each of its own", Math.min(number, 12 - number), () -> x.apart(0, number));
            c.is("7: the one before", number - 1, () -> x.load(0, number));
        }
        c.is("56: all of them again", x.print(), x::printAgain);
    }

    private static void threeEffects(Checks c) {
        char[] kinds = {'e', 'r', 'c'};
        for (char kind : kinds) {
            MixBooth x = new MixBooth();
            for (int deck = 0; deck < 4; deck++) {
                int d = deck;
                for (int i = 1; i <= 3; i++) {
                    int count = i;
                    c.is("27: how many it has", count, () -> x.addEffect(d, kind, 100));
                }
                c.refused("27: it has 3", FULL, () -> x.addEffect(d, kind, 100));
            }
            c.is("28: 3 there were", 3, () -> x.dropEffects(0));
            c.is("27: the first again", 1, () -> x.addEffect(0, kind, 100));
            c.refused("27: another one still has 3", FULL, () -> x.addEffect(3, kind, 100));
            c.is("28: none more", 3, () -> x.dropEffects(3));
            c.is("54: done ones alone", 15, x::logged);
        }
    }

    private static void thirtySigns(Checks c) {
        MixBooth x = new MixBooth();
        for (int i = 1; i <= 30; i++) {
            int length = i;
            c.is("47: its length", length, () -> x.type('B'));
        }
        c.refused("47: it has 30", FULL, () -> x.type('B'));
        c.refused("47: it has 30, still", FULL, () -> x.type((char) 0));
        c.is("48: 30 and none more", 30, x::wipe);
        c.is("47: room again", 1, () -> x.type('B'));
    }

    private static String many(String part, int times) {
        StringBuilder text = new StringBuilder();
        for (int i = 0; i < times; i++) {
            text.append(part);
        }
        return text.toString();
    }

    private static void fullTexts(Checks c) {
        MixBooth x = Booths.withOne();
        c.is("49: 29 moves", 29, () -> Booths.perform(x, "A" + many("p", 29)));
        c.is("49: 14 moves with digits and one without", 15, () -> Booths.perform(x, "A" + many("f9", 14) + "s"));
        c.is("49: 30 decks", 0, () -> Booths.perform(x, many("ABC", 10)));
        c.refused("49: the digit is behind the 30th sign", WRONG, () -> Booths.perform(x, "A" + many("f9", 14) + "f"));
        c.is("51: the fault is at its length", 30, () -> x.causeNumber(0));
        c.refused("49: the 30th sign is the fault", WRONG, () -> Booths.perform(x, "A" + many("p", 28) + "?"));
        c.is("51: the fault is the 30th sign", 29, () -> x.causeNumber(0));
        c.refused("49: the 30th sign cannot be done", UnsupportedOperationException.class,
                () -> Booths.perform(x, "A" + many("p", 28) + "x"));
        c.is("51: the move at the 30th sign", 29, () -> x.causeNumber(0));
        c.is("48: the full text is still there", 30, x::wipe);
    }

    /** A record that group 0 likes best, looped, on deck 0; a banned or other one is put on by tests. */
    private static MixBooth liked() {
        MixBooth x = new MixBooth();
        x.addRecord(1200, 999, 0, 3, 8, 0, 0);
        x.addRecord(1200, 999, 3, 3, 8, 0, 0);
        for (int deck = 0; deck < 2; deck++) {
            x.load(deck, deck);
            x.loop(deck, 6);
            x.play(deck);
        }
        x.setFader(0, 30);
        return x;
    }

    private static void groupOfForty(Checks c) {
        MixBooth x = liked();
        x.go(1900);
        c.is("38: 19 have come", 39, () -> x.people(0));
        x.go(100);
        c.is("38: up to 40", 40, () -> x.people(0));
        x.go(100);
        c.is("38: nobody more", 40, () -> x.people(0));
        c.is("39: but it is 2 more tired", 42, () -> x.tired(0));
        c.is("59: 40 people are sound", true, x::isSound);
        x.setFader(0, 0);
        x.go(100);
        c.is("38: one leaves", 39, () -> x.people(0));
    }

    private static void groupOfNobody(Checks c) {
        MixBooth x = new MixBooth();
        x.go(1900);
        c.is("38: one of each is left", 6, () -> x.people(-1));
        x.go(100);
        c.is("38: nobody is left", 0, () -> x.people(-1));
        x.go(2000);
        c.is("38: nobody goes below 0", 0, () -> x.people(-1));
        for (int group = 0; group < 6; group++) {
            int g = group;
            c.is("38: nobody goes below 0, of any group", 0, () -> x.people(g));
        }
        c.is("59: a floor of nobody is sound", true, x::isSound);
        c.is("55: nobody is 0", x.printAgain(), x::print);
    }

    /** 20 seconds of silence, less some; then what neither brings nor drives away makes tired, 1 a second. */
    private static MixBooth fewAndTired(int people) {
        MixBooth x = liked();
        x.setFader(0, 0);
        Booths.goFar(x, 100 * (20 - people));
        x.setFader(1, 30);
        Booths.goFar(x, 9900);
        return x;
    }

    private static void tiredOut(Checks c) {
        for (int people = 0; people <= 4; people++) {
            int before = people;
            MixBooth x = fewAndTired(people);
            c.is("39: 99 is not yet 100", 99, () -> x.tired(0));
            c.is("38: so nobody is lost", before, () -> x.people(0));
            x.go(100);
            c.is("39: 100 becomes 60", 60, () -> x.tired(0));
            c.is("38: 2 are lost, nobody goes below 0", Math.max(0, before - 2), () -> x.people(0));
        }
        MixBooth x = fewAndTired(20);
        x.setFader(1, 0);
        x.setFader(0, 30);
        x.go(100);
        c.is("39: 101 becomes 61", 61, () -> x.tired(0));
        c.is("38: 1 comes, then 2 are lost", 19, () -> x.people(0));
    }

    /** Two decks whose loudness is 10 times their faders. */
    private static MixBooth loud(int fader, int otherFader) {
        MixBooth x = new MixBooth();
        x.addRecord(1200, 999, 0, 9, 8, 0, 0);
        for (int deck = 0; deck < 2; deck++) {
            x.load(deck, 0);
            x.play(deck);
        }
        x.setFader(0, fader);
        x.setFader(1, otherFader);
        return x;
    }

    private static void loudness(Checks c) {
        MixBooth x = loud(100, 99);
        x.setBand(1, 0, 99);
        x.addEffect(1, 'e', 1);
        x.go(1);
        c.is("32: below 2000", 1000 + 99 * 10 * 299 / 300 + 9, x::heard);
        MixBooth y = loud(100, 100);
        y.setLimit(0, 1999);
        y.go(100);
        c.is("32: at 2000", 2000, y::heard);
        c.is("42: above 1999", 1, y::breaches);
        y.setLimit(0, 2000);
        y.addEffect(0, 'e', 1);
        y.go(1);
        c.is("32: 2010 is cut to 2000", 2000, y::heard);
        y.addEffect(0, 'e', 100);
        y.go(99);
        c.is("32: 3000 is cut to 2000", 2000, y::heard);
        c.is("42: no second is above 2000", 1, y::breaches);
        c.is("58: the cut ones count", 2000.0, y::meanLoudness);
    }

    private static void loudTails(Checks c) {
        MixBooth x = new MixBooth();
        x.addRecord(1200, 999, 0, 9, 8, 0, 0);
        for (int deck = 0; deck < 4; deck++) {
            x.load(deck, 0);
            x.setFader(deck, 100);
            x.play(deck);
            for (int i = 0; i < 3; i++) {
                x.addEffect(deck, 'e', 100);
            }
        }
        x.go(1);
        c.is("29: as loud as its source", 1000, () -> x.tail(3, 2));
        c.is("32: 16000 are cut to 2000", 2000, x::heard);
        for (int deck = 0; deck < 4; deck++) {
            x.stop(deck);
        }
        x.go(1);
        c.is("29: the tail itself is not cut", 950, () -> x.tail(3, 2));
        c.is("32: 12 tails are cut to 2000", 2000, x::heard);
        x.go(35);
        int tail = x.tail(0, 0);
        c.is("32: 12 tails that are not cut", 12 * tail, x::heard);
        c.is("29: are below that", true, () -> 12 * tail < 2000);
    }

    private static void fourRows(Checks c) {
        MixBooth x = new MixBooth();
        for (int i = 0; i < 5; i++) {
            x.addRecord(1200, 16, i, 3, 8, 0, 0);
        }
        x.load(0, 0);
        c.is("45: a row of all 4 records", 1, () -> x.next(0, 4));
        c.is("46: a row of all 4 records", 40, () -> x.cost(0, 4));
        x.ban(4, true);
        c.is("45: a row of all 3 records", 1, () -> x.next(0, 3));
        c.refused("45: 3 are one less than 4", NoSuchElementException.class, () -> x.next(0, 4));
        c.refused("46: 3 are one less than 4", NoSuchElementException.class, () -> x.cost(0, 4));
    }

    private static void allRecordsInRows(Checks c) {
        MixBooth x = new MixBooth();
        for (int i = 0; i < 12; i++) {
            x.addRecord(600 + 10 * (11 - i), 16, 0, 0, 8, 0, 0);
        }
        for (int deck = 0; deck < 4; deck++) {
            x.load(deck, deck);
        }
        c.is("45: the first is the next one down", 4, () -> x.next(3, 4));
        c.is("46: 1 for each 10 tenths", 4, () -> x.cost(3, 4));
        c.is("46: from the first deck", 7, () -> x.cost(0, 4));
        x.request(11);
        c.is("45: the last record is wanted", 11, () -> x.next(3, 1));
        c.is("46: the last record is wanted", 8 - 15, () -> x.cost(3, 1));
        c.is("59: rows cost what their steps cost", true, x::isSound);
    }

    private static void allCalls(Checks c) {
        MixBooth x = Booths.playing();
        for (int i = 4; i < 508; i++) {
            x.setCross(i % 100);
        }
        x.go(100);
        c.is("54: 509 acts in 509 calls", 509, x::logged);
        c.is("56: call 511 does them all again", x.print(), x::printAgain);
        MixBooth y = Booths.playing();
        for (int i = 4; i < 511; i++) {
            y.go(7);
        }
        c.is("59: the last call", true, y::isSound);
        MixBooth z = new MixBooth();
        for (int i = 0; i < 31; i++) {
            z.type('A');
            for (int k = 0; k < 14; k++) {
                z.type('s');
            }
            z.perform();
        }
        c.is("54: 31 texts", 31, z::logged);
        c.is("56: all of them again", z.print(), z::printAgain);
    }
}
