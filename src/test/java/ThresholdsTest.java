import java.util.NoSuchElementException;

/** From which number on something is so, and, of several that are alike, which one it is. */
public final class ThresholdsTest {
    private static final long BEAT = Booths.BEAT;
    private static final Class<NoSuchElementException> NONE = NoSuchElementException.class;

    private ThresholdsTest() {
    }

    public static void main(String[] args) {
        Checks c = new Checks("ThresholdsTest");
        heardFor(c);
        heardByFloor(c);
        heardByLight(c);
        heardByClash(c);
        heardByStick(c);
        lowBands(c);
        chop(c);
        crossfader(c);
        sums(c);
        tiredLess(c);
        tiredMore(c);
        bannedHeard(c);
        bestRecord(c);
        limits(c);
        tenSeconds(c);
        fadersOfSticks(c);
        firstDeckOfSeveral(c);
        loudestDeck(c);
        leastRows(c);
        requested(c);
        c.end();
    }

    /** Decks with records of the key 0 and the energy 3 that play for long; no fader is up. */
    private static MixBooth decks(int count) {
        MixBooth x = new MixBooth();
        for (int deck = 0; deck < count; deck++) {
            x.addRecord(600, 999, 0, 3, 8, 65535, 0);
            x.load(deck, deck);
            x.play(deck);
        }
        return x;
    }

    /** The last level that is heard, and the first one that is not, both by a fader and by the crossfader. */
    private static final int[][] FADER_CROSS_HEARD = {{30, 0, 1}, {29, 0, 0}, {31, 3, 1}, {31, 4, 0}, {100, 70, 1},
        {100, 71, 0}, {30, 1, 0}};

    private static MixBooth cross(int[] setting) {
        MixBooth x = decks(2);
        x.setSide(0, 'l');
        x.setFader(0, setting[0]);
        x.setCross(setting[1]);
        return x;
    }

    private static void heardFor(Checks c) {
        for (int[] setting : FADER_CROSS_HEARD) {
            MixBooth x = cross(setting);
            x.go(100);
            c.is("40: fader " + setting[0] + ", cross " + setting[1], setting[2], () -> x.seconds(0));
        }
    }

    private static void heardByFloor(Checks c) {
        for (int[] setting : FADER_CROSS_HEARD) {
            MixBooth x = cross(setting);
            x.go(100);
            int due = setting[2] == 1 ? 21 : 19;
            c.is("38: fader " + setting[0] + ", cross " + setting[1], due, () -> x.people(0));
        }
    }

    private static void heardByLight(Checks c) {
        for (int[] setting : FADER_CROSS_HEARD) {
            MixBooth x = cross(setting);
            String what = "44: fader " + setting[0] + ", cross " + setting[1];
            if (setting[2] == 1) {
                c.is(what, 0, x::light);
            } else {
                c.refused(what, NONE, x::light);
            }
        }
    }

    private static void heardByClash(Checks c) {
        for (int[] setting : FADER_CROSS_HEARD) {
            MixBooth x = cross(setting);
            x.setFader(1, 30);
            x.go(1);
            c.is("34: voices, fader " + setting[0], setting[2], () -> x.clashes('v'));
            c.is("34: bass, fader " + setting[0], setting[2], () -> x.clashes('b'));
        }
    }

    private static void heardByStick(Checks c) {
        for (int[] setting : FADER_CROSS_HEARD) {
            MixBooth x = cross(setting);
            x.load(2, 0);
            x.setFader(2, 100);
            int due = setting[2] == 1 ? -1 : 2;
            c.is("53: fader " + setting[0] + ", cross " + setting[1], due, () -> x.loseStick(1));
        }
    }

    private static void lowBands(Checks c) {
        int[][] bands = {{50, 50, 1}, {49, 50, 0}, {50, 49, 0}, {49, 49, 0}, {100, 50, 1}, {0, 100, 0}};
        for (int[] b : bands) {
            MixBooth x = decks(2);
            for (int deck = 0; deck < 2; deck++) {
                x.setFader(deck, 100);
                x.setBand(deck, 0, b[deck]);
                x.setBand(deck, 1, 0);
                x.setBand(deck, 2, 49);
            }
            x.go(1);
            c.is("34: low bands of " + b[0] + " and " + b[1], b[2], () -> x.clashes('b'));
            c.is("34: voices have nothing to do with bands", 1, () -> x.clashes('v'));
        }
    }

    private static void chop(Checks c) {
        MixBooth x = Booths.withOne();
        Booths.toUnitAheadOf(x, 0, 90);
        x.setFader(0, 100);
        x.addEffect(0, 'c', 0);
        x.play(0);
        x.go(25);
        c.is("18: one unit ahead of the second half", 90 * BEAT + BEAT / 2 - 1, () -> x.place(0));
        c.is("27: is in the first half", 400, x::heard);
        x.go(1);
        c.is("27: is in the second half", 0, x::heard);
        x.go(24);
        c.is("18: one unit ahead of the next beat", 91 * BEAT - 1, () -> x.place(0));
        c.is("27: is in the second half, still", 0, x::heard);
        x.go(1);
        c.is("27: is in the first half again", 400, x::heard);
        x.jump(0, 50);
        x.go(25);
        c.is("18: at the second half", 50 * BEAT + BEAT / 2, () -> x.place(0));
        c.is("27: it begins", 0, x::heard);
        x.go(25);
        c.is("27: the beat begins", 400, x::heard);
        x.addEffect(0, 'r', 100);
        x.go(1);
        c.is("27: all in the first half", 800, x::heard);
        x.go(24);
        c.is("27: nothing but tails in the second half", x.tail(0, 1), x::heard);
    }

    private static void crossfader(Checks c) {
        int[] crosses = {-100, -99, -1, 0, 1, 99, 100};
        int[] onLeft = {100, 100, 100, 100, 99, 1, 0};
        int[] onRight = {0, 1, 99, 100, 100, 100, 100};
        MixBooth x = decks(3);
        char[] sides = {'l', 'm', 'r'};
        for (int deck = 0; deck < 3; deck++) {
            x.setFader(deck, 100);
            x.setSide(deck, sides[deck]);
        }
        for (int i = 0; i < crosses.length; i++) {
            x.setCross(crosses[i]);
            int left = onLeft[i];
            int right = onRight[i];
            c.is("26: l at " + crosses[i], left, () -> x.level(0));
            c.is("26: m at " + crosses[i], 100, () -> x.level(1));
            c.is("26: r at " + crosses[i], right, () -> x.level(2));
        }
    }

    /** Group 0 likes the key 0 and the energy 3; a second of a record that is so far off. */
    private static MixBooth second(int key, int energy) {
        MixBooth x = new MixBooth();
        x.addRecord(600, 999, key, energy, 8, 0, 0);
        x.load(0, 0);
        x.setFader(0, 30);
        x.play(0);
        x.go(100);
        return x;
    }

    private static void sums(Checks c) {
        int[][] keyEnergy = {{0, 3, 0}, {1, 3, 1}, {2, 3, 2}, {0, 5, 2}, {0, 1, 2}, {1, 4, 2}, {13, 3, 2}, {3, 3, 3},
            {0, 0, 3}, {0, 6, 3}, {14, 3, 3}, {5, 3, 5}, {0, 8, 5}, {2, 0, 5}, {16, 3, 5}, {6, 3, 6}, {0, 9, 6},
            {3, 0, 6}, {17, 3, 6}, {18, 9, 13}};
        for (int[] k : keyEnergy) {
            MixBooth x = second(k[0], k[1]);
            int people = k[2] <= 2 ? 21 : k[2] >= 6 ? 19 : 20;
            int tired = k[2] <= 2 ? 2 : k[2] >= 6 ? 0 : 1;
            c.is("38: key " + k[0] + ", energy " + k[1] + ", the sum " + k[2], people, () -> x.people(0));
            c.is("39: key " + k[0] + ", energy " + k[1] + ", the sum " + k[2], tired, () -> x.tired(0));
        }
        for (int group = 0; group < 6; group++) {
            int g = group;
            MixBooth x = second(4 * g, g + 3);
            c.is("38: the group " + g + " likes the key 4 g, and the energy g plus 3", 21, () -> x.people(g));
            c.is("39: and is 2 more tired", 2, () -> x.tired(g));
        }
    }

    /** Deck 0 is liked, 2 a second; deck 1 is neither, 1 a second; deck 2 is disliked, 3 less. */
    private static MixBooth threeMoods() {
        MixBooth x = new MixBooth();
        int[] keys = {0, 3, 6};
        for (int deck = 0; deck < 3; deck++) {
            x.addRecord(600, 999, keys[deck], deck == 2 ? 9 : 3, 8, 0, 0);
            x.load(deck, deck);
            x.loop(deck, 6);
            x.play(deck);
        }
        return x;
    }

    private static void hear(MixBooth x, int deck, int seconds) {
        for (int other = 0; other < 3; other++) {
            x.setFader(other, other == deck ? 30 : 0);
        }
        Booths.goFar(x, 100 * seconds);
    }

    private static void tiredLess(Checks c) {
        for (int tired = 0; tired <= 4; tired++) {
            int before = tired;
            MixBooth x = threeMoods();
            hear(x, 1, tired);
            c.is("39: 1 more tired a second", before, () -> x.tired(0));
            c.is("38: nobody comes or leaves", 20, () -> x.people(0));
            hear(x, 2, 1);
            c.is("39: 3 less tired than " + before + ", 0 at least", Math.max(0, before - 3), () -> x.tired(0));
            c.is("38: 1 leaves", 19, () -> x.people(0));
        }
        MixBooth x = threeMoods();
        hear(x, 1, 5);
        hear(x, -1, 1);
        c.is("39: as nothing is heard nobody is less tired", 5, () -> x.tired(0));
        c.is("38: but 1 leaves", 19, () -> x.people(0));
    }

    private static void tiredMore(Checks c) {
        int[][] more = {{1, 98, 99}, {0, 98, 60}, {1, 99, 60}, {0, 99, 61}, {0, 97, 99}};
        for (int[] m : more) {
            MixBooth x = threeMoods();
            hear(x, 1, m[1]);
            c.is("39: " + m[1], m[1], () -> x.tired(0));
            hear(x, m[0], 1);
            c.is("39: 40 less from 100 on", m[2], () -> x.tired(0));
            int come = m[0] == 0 ? 1 : 0;
            int lost = m[2] < 99 ? 2 : 0;
            c.is("38: 2 are lost from 100 on", 20 + come - lost, () -> x.people(0));
        }
    }

    private static void bannedHeard(Checks c) {
        for (int deck = 0; deck < 4; deck++) {
            MixBooth x = decks(4);
            for (int other = 0; other < 4; other++) {
                x.setFader(other, 100);
            }
            x.ban(deck, true);
            x.setFader(deck, 30);
            x.go(100);
            c.is("38: nobody comes, as deck " + deck + " is banned and heard", 20, () -> x.people(0));
            c.is("39: but the group is as tired", 2, () -> x.tired(0));
            x.setFader(deck, 29);
            x.go(100);
            c.is("38: 1 comes, as it is not heard", 21, () -> x.people(0));
            x.setFader(deck, 100);
            x.stop(deck);
            x.go(100);
            c.is("38: 1 comes, as it does not play", 22, () -> x.people(0));
        }
    }

    private static void bestRecord(Checks c) {
        int[] keys = {6, 3, 2, 12};
        for (int best = 0; best < 4; best++) {
            MixBooth x = new MixBooth();
            for (int deck = 0; deck < 4; deck++) {
                x.addRecord(600, 999, deck == best ? 0 : keys[deck], deck == best ? 3 : 9, 8, 0, 0);
                x.load(deck, deck);
                x.setFader(deck, deck == best ? 30 : 100);
                x.play(deck);
            }
            x.go(100);
            c.is("38: the least sum is that of deck " + best, 21, () -> x.people(0));
            x.setFader(best, 29);
            x.go(100);
            c.is("38: without it all are far off", 20, () -> x.people(0));
        }
    }

    private static void limits(Checks c) {
        for (int index = 0; index < 4; index++) {
            int i = index;
            MixBooth x = decks(1);
            x.setFader(0, 100);
            x.setLimit(index, 399);
            x.go(100);
            c.is("42: 400 is above 399, by the first limit alone", i == 0 ? 1 : 0, x::breaches);
            x.setLimit(index, 400);
            x.go(100);
            c.is("42: 400 is not above 400", i == 0 ? 1 : 0, x::breaches);
        }
        MixBooth x = decks(1);
        x.setLimit(0, 0);
        x.go(100);
        c.is("42: 0 is not above 0", 0, x::breaches);
        x.setFader(0, 100);
        x.go(99);
        x.setLimit(0, 2000);
        x.go(1);
        c.is("42: by the limit at the end of the second", 0, x::breaches);
    }

    private static void tenSeconds(Checks c) {
        MixBooth x = decks(3);
        x.load(3, 0);
        x.setFader(1, 30);
        x.go(999);
        x.stop(1);
        x.loseStick(1);
        c.is("40: 9 whole seconds", 9, () -> x.seconds(1));
        c.is("45: 999 ticks are not 10 seconds", 1, () -> x.next(0, 1));
        c.is("46: 999 ticks are not 10 seconds", 0, () -> x.cost(0, 1));
        x.load(1, 1);
        x.play(1);
        x.go(1);
        x.stop(1);
        x.loseStick(1);
        c.is("40: 10 whole seconds", 10, () -> x.seconds(1));
        c.refused("45: 1000 ticks are 10 seconds", NONE, () -> x.next(0, 1));
        c.refused("46: 1000 ticks are 10 seconds", NONE, () -> x.cost(0, 1));
    }

    private static void fadersOfSticks(Checks c) {
        int[] faders = {0, 29, 30, 31, 100};
        for (int fader : faders) {
            MixBooth x = Booths.withFour();
            x.setFader(2, fader);
            x.setSide(2, 'r');
            x.setCross(-100);
            c.is("53: a fader of " + fader, fader >= 30 ? 2 : -1, () -> x.loseStick(0));
            c.is("20: it begins", fader >= 30, () -> x.plays(2));
            c.is("26: though its level is 0", 0, () -> x.level(2));
        }
    }

    private static void firstDeckOfSeveral(Checks c) {
        for (int lost = 0; lost < 4; lost++) {
            int first = lost == 0 ? 1 : 0;
            MixBooth x = Booths.withFour();
            for (int deck = 0; deck < 4; deck++) {
                x.setFader(deck, 30);
            }
            int l = lost;
            c.is("53: the first other deck", first, () -> x.loseStick(l));
            for (int deck = 0; deck < 4; deck++) {
                int d = deck;
                c.is("53: and none but it", deck == first, () -> x.plays(d));
            }
        }
    }

    private static void loudestDeck(Checks c) {
        MixBooth x = decks(4);
        for (int deck = 0; deck < 4; deck++) {
            x.setFader(deck, 50);
            x.jump(deck, deck);
        }
        c.is("44: of several the first", 0, x::light);
        x.setFader(0, 29);
        c.is("44: of those that are heard", 1, x::light);
        x.setFader(3, 51);
        c.is("44: the loudest", 3, x::light);
        x.setFader(2, 51);
        c.is("44: of two the first", 2, x::light);
        x.setBand(2, 2, 98);
        c.is("44: by loudness", 3, x::light);
        x.setBand(3, 1, 0);
        x.setFader(3, 100);
        c.is("44: not by level", 3, x::light);
        x.setBand(3, 0, 0);
        c.is("44: not by level, now that there are two", 2, x::light);
        x.setFader(2, 0);
        x.setFader(3, 0);
        for (int band = 0; band < 3; band++) {
            x.setBand(1, band, 0);
        }
        c.is("44: heard with the loudness 0", 1, x::light);
        MixBooth y = decks(2);
        y.setFader(0, 40);
        y.setFader(1, 39);
        y.addEffect(1, 'e', 100);
        y.go(1);
        y.jump(1, 5);
        c.is("29: a tail of nearly the same again", true, () -> y.tail(1, 0) > 100);
        c.is("44: the tail is none of the deck's loudness", 0, y::light);
    }

    private static void leastRows(Checks c) {
        MixBooth x = new MixBooth();
        int[] keys = {0, 2, 1, 1, 2};
        for (int key : keys) {
            x.addRecord(1200, 16, key, 0, 8, 0, 0);
        }
        x.load(0, 0);
        c.is("45: the least cost", 2, () -> x.next(0, 1));
        c.is("46: the least cost", 10, () -> x.cost(0, 1));
        c.is("45: 2, 3 is the first of the rows that cost 10", 2, () -> x.next(0, 2));
        c.is("46: none twice", 10, () -> x.cost(0, 2));
        c.is("46: all four", 20, () -> x.cost(0, 4));
        x.ban(2, true);
        c.is("45: the other one", 3, () -> x.next(0, 1));
        x.ban(3, true);
        c.is("45: 1 and 4 cost alike", 1, () -> x.next(0, 1));
        c.is("46: 1 and 4 cost alike", 20, () -> x.cost(0, 1));
    }

    private static void requested(Checks c) {
        int[] keys = {1, 2};
        for (int key : keys) {
            MixBooth x = new MixBooth();
            x.addRecord(1200, 16, 0, 0, 8, 0, 0);
            x.addRecord(1200, 16, 0, 0, 8, 0, 0);
            x.addRecord(1200, 16, key, 0, 8, 0, 0);
            x.load(0, 0);
            c.is("45: without a request", 1, () -> x.next(0, 1));
            x.request(2);
            c.is("45: 15 less than 10 times " + key, key == 1 ? 2 : 1, () -> x.next(0, 1));
            c.is("46: 15 less than 10 times " + key, key == 1 ? -5 : 0, () -> x.cost(0, 1));
            x.request(2);
            c.is("46: 15 less but once", key == 1 ? -5 : 0, () -> x.cost(0, 1));
        }
    }
}
