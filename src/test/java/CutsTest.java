/** What is cut, or rounded up, and towards which side. */
public final class CutsTest {
    private static final long BEAT = Booths.BEAT;

    private CutsTest() {
    }

    public static void main(String[] args) {
        Checks c = new Checks("CutsTest");
        tenths(c);
        halves(c);
        levels(c);
        loudnesses(c);
        newTails(c);
        echoes(c);
        reverbs(c);
        tailOrSource(c);
        thousandths(c);
        halvesByEar(c);
        nearestPitch(c);
        twoPitches(c);
        wholeSeconds(c);
        meanOfSecond(c);
        tempoCosts(c);
        figures(c);
        c.end();
    }

    /** A deck whose step is 1001 times 1001, 1002001, which neither 10 nor 2 divides. */
    private static MixBooth odd() {
        MixBooth x = new MixBooth();
        x.addRecord(1001, 99, 0, 0, 8, 0, 0);
        x.load(0, 0);
        x.setPitch(0, 1);
        x.play(0);
        return x;
    }

    private static void tenths(Checks c) {
        MixBooth more = odd();
        more.nudge(0, 1);
        more.go(1);
        c.is("11: a tenth, cut, more", 1002001 + 100200, () -> more.place(0));
        MixBooth less = odd();
        less.nudge(0, -1);
        less.go(1);
        c.is("11: a tenth, cut, less", 1002001 - 100200, () -> less.place(0));
        c.is("19: by its pitch alone", 1002001, () -> less.tempo(0));
    }

    private static void halves(Checks c) {
        int[] due = {501000, 250500, 125250, 62625, 31312};
        MixBooth x = odd();
        x.brake(0);
        long at = 0;
        for (int part = 0; part < due.length; part++) {
            x.go(1);
            at += due[part];
            long first = at;
            c.is("12: halved, cut, " + (part + 1) + " times", first, () -> x.place(0));
            x.go(9);
            at += 9 * due[part];
        }
        MixBooth nudged = odd();
        nudged.brake(0);
        nudged.nudge(0, 1);
        nudged.go(1);
        c.is("12: half of what the nudge makes it, cut", 1102201 / 2, () -> nudged.place(0));
        MixBooth slow = odd();
        slow.brake(0);
        slow.nudge(0, -1);
        slow.go(1);
        c.is("12: half of what a slow nudge makes it, cut", 901801 / 2, () -> slow.place(0));
    }

    private static void levels(Checks c) {
        MixBooth x = Booths.playing();
        x.setSide(0, 'l');
        for (int fader = 0; fader <= 100; fader += 9) {
            x.setFader(0, fader);
            for (int cross = 0; cross <= 100; cross += 7) {
                x.setCross(cross);
                int due = fader * (100 - cross) / 100;
                c.is("26: " + fader + " at " + cross + ", cut", due, () -> x.level(0));
            }
        }
        x.setFader(0, 1);
        x.setCross(1);
        c.is("26: 99 hundredths are cut to 0", 0, () -> x.level(0));
        x.setFader(0, 100);
        x.setSide(0, 'r');
        x.setCross(-99);
        c.is("26: 1 is left", 1, () -> x.level(0));
    }

    private static void loudnesses(Checks c) {
        MixBooth x = new MixBooth();
        x.addRecord(600, 99, 0, 0, 8, 0, 0);
        x.load(0, 0);
        x.setFader(0, 100);
        x.play(0);
        int[][] bands = {{100, 100, 100, 100}, {100, 100, 99, 99}, {0, 0, 3, 1}, {0, 2, 0, 0}, {1, 1, 0, 0},
            {1, 1, 1, 1}, {0, 0, 5, 1}, {0, 0, 6, 2}};
        for (int[] b : bands) {
            for (int band = 0; band < 3; band++) {
                x.setBand(0, band, b[band]);
            }
            x.go(1);
            c.is("32: bands " + b[0] + ", " + b[1] + ", " + b[2] + ", divided by 300, cut", b[3], x::heard);
        }
        int silent = x.silence();
        c.is("33: what is cut to 0 is silent", 2, () -> silent);
    }

    private static void newTails(Checks c) {
        char[] kinds = {'e', 'r'};
        for (char kind : kinds) {
            int[] strengths = {0, 1, 2, 49, 50, 51, 99, 100};
            for (int strength : strengths) {
                MixBooth x = new MixBooth();
                x.addRecord(600, 99, 0, 0, 8, 0, 0);
                x.load(0, 0);
                x.setFader(0, 99);
                x.play(0);
                x.addEffect(0, kind, strength);
                x.go(1);
                c.is("29: " + kind + " of the strength " + strength + ", cut", 99 * strength / 100,
                        () -> x.tail(0, 0));
            }
        }
    }

    /** A tail of this length, which is that of a deck with the fader there; the deck has stopped. */
    private static MixBooth tailOf(char kind, int tail) {
        MixBooth x = new MixBooth();
        x.addRecord(600, 99, 0, 1, 8, 0, 0);
        x.load(0, 0);
        x.setFader(0, tail / 2);
        x.addEffect(0, kind, 100);
        x.play(0);
        x.go(1);
        x.stop(0);
        return x;
    }

    private static void losing(Checks c, char kind, int[][] pairs) {
        for (int[] pair : pairs) {
            MixBooth x = tailOf(kind, pair[0]);
            c.is("29: " + kind + ", a tail of " + pair[0], pair[0], () -> x.tail(0, 0));
            x.go(1);
            c.is("29: " + kind + " of " + pair[0] + ", rounded up", pair[0] - pair[1], () -> x.tail(0, 0));
            c.is("32: it is what is heard", pair[0] - pair[1], x::heard);
        }
    }

    private static void echoes(Checks c) {
        losing(c, 'e', new int[][] {{2, 1}, {18, 1}, {20, 1}, {22, 2}, {38, 2}, {40, 2}, {42, 3}, {60, 3}, {62, 4},
            {200, 10}, {0, 0}});
        MixBooth x = tailOf('e', 2);
        x.go(2);
        c.is("29: 1 loses 1", 0, () -> x.tail(0, 0));
        x.go(1);
        c.is("29: 0 loses nothing", 0, () -> x.tail(0, 0));
    }

    private static void reverbs(Checks c) {
        losing(c, 'r', new int[][] {{2, 1}, {48, 1}, {50, 1}, {52, 2}, {98, 2}, {100, 2}, {102, 3}, {150, 3},
            {152, 4}, {200, 4}, {0, 0}});
        MixBooth x = tailOf('r', 2);
        x.go(2);
        c.is("29: 1 loses 1", 0, () -> x.tail(0, 0));
        x.go(1);
        c.is("29: 0 loses nothing", 0, () -> x.tail(0, 0));
    }

    /** A source that is more than the tail by 1 is its new length; one that is as much is not. */
    private static void tailOrSource(Checks c) {
        MixBooth x = new MixBooth();
        x.addRecord(600, 99, 0, 0, 8, 0, 0);
        x.load(0, 0);
        x.setFader(0, 100);
        x.addEffect(0, 'e', 100);
        x.addEffect(0, 'r', 100);
        x.play(0);
        x.go(1);
        c.is("29: 100", 100, () -> x.tail(0, 0));
        x.go(1);
        c.is("29: 100 is not more than 100, so an echo loses 5", 95, () -> x.tail(0, 0));
        c.is("29: 100 is not more than 100, so a reverb loses 2", 98, () -> x.tail(0, 1));
        x.setFader(0, 96);
        x.go(1);
        c.is("29: 96 is more than 95", 96, () -> x.tail(0, 0));
        c.is("29: 96 is not more than 98", 96, () -> x.tail(0, 1));
        x.setFader(0, 97);
        x.go(1);
        c.is("29: 97 is more than 96", 97, () -> x.tail(0, 0));
        c.is("29: 97 is more than 96, of a reverb", 97, () -> x.tail(0, 1));
        c.is("32: source and tails", 3 * 97, x::heard);
    }

    private static void thousandths(Checks c) {
        MixBooth x = new MixBooth();
        x.addRecord(1200, 999, 0, 0, 8, 0, 0);
        x.load(0, 0);
        x.load(1, 0);
        x.setPitch(0, 1);
        x.play(0);
        x.play(1);
        for (int ticks = 1; ticks <= 150; ticks++) {
            x.go(1);
            int ahead = ticks * 1200 / 60000;
            int behind = -((ticks * 1200 + 59999) / 60000);
            c.is("35: " + ticks * 1200 + " units ahead", ahead, () -> x.between(0, 1));
            c.is("35: " + ticks * 1200 + " units behind, modulo a beat, cut", behind, () -> x.between(1, 0));
        }
    }

    /** Deck 0 so many thousandths ahead of deck 1, with room on both sides; less than 0 is behind. */
    private static MixBooth apartBy(int thousandths) {
        MixBooth x = new MixBooth();
        x.addRecord(600, 999, 0, 0, 8, 0, 0);
        x.load(0, 0);
        x.load(1, 0);
        x.jump(0, 40);
        x.jump(1, 40);
        int ahead = thousandths > 0 ? 0 : 1;
        x.setPitch(ahead, 100);
        x.play(0);
        x.play(1);
        Booths.goFar(x, Math.abs(thousandths));
        return x;
    }

    private static void halvesByEar(Checks c) {
        int[][] heard = {{1, 1}, {2, 1}, {3, 2}, {5, 3}, {-1, -1}, {-2, -1}, {-3, -2}, {-5, -3}, {499, 250},
            {-499, -250}, {-500, -250}};
        for (int[] pair : heard) {
            MixBooth x = apartBy(pair[0]);
            c.is("35: " + pair[0], pair[0], () -> x.between(0, 1));
            c.is("37: half of " + pair[0] + ", cut towards 0, off", pair[1], () -> x.ear(0, 1, 2));
        }
    }

    private static int pitchTo(int tempo, int otherTempo, int otherPitch) {
        MixBooth x = new MixBooth();
        x.addRecord(tempo, 99, 0, 0, 8, 0, 0);
        x.addRecord(otherTempo, 99, 0, 0, 8, 0, 0);
        x.load(0, 0);
        x.load(1, 1);
        x.setPitch(1, otherPitch);
        return x.sync(0, 1);
    }

    private static void nearestPitch(Checks c) {
        c.is("36: alike", 0, () -> pitchTo(1200, 1200, 0));
        c.is("36: alike, with its pitch", 37, () -> pitchTo(1200, 1200, 37));
        c.is("36: 160 exactly", 160, () -> pitchTo(1000, 1160, 0));
        c.is("36: 159 exactly", 159, () -> pitchTo(1000, 1159, 0));
        c.is("36: above 160", 160, () -> pitchTo(1000, 1161, 0));
        c.is("36: -160 exactly", -160, () -> pitchTo(1000, 840, 0));
        c.is("36: -159 exactly", -159, () -> pitchTo(1000, 841, 0));
        c.is("36: below -160", -160, () -> pitchTo(1000, 839, 0));
        c.is("36: the fastest for the slowest", -160, () -> pitchTo(2000, 600, -160));
        c.is("36: the slowest for the fastest", 160, () -> pitchTo(600, 2000, 160));
        c.is("36: 83 and a third is nearer to 83", 83, () -> pitchTo(1200, 1300, 0));
        c.is("36: -76 and 12 13ths is nearer to -77", -77, () -> pitchTo(1300, 1200, 0));
        c.is("36: -71 and 3 7ths is nearer to -71", -71, () -> pitchTo(1400, 1300, 0));
    }

    private static void twoPitches(Checks c) {
        c.is("36: between 0 and 1 the lower one", 0, () -> pitchTo(1000, 870, 150));
        c.is("36: between -1 and 0 the lower one", -1, () -> pitchTo(2000, 1999, 0));
        c.is("36: between -160 and -159 the lower one", -160, () -> pitchTo(2000, 1681, 0));
        c.is("36: between 159 and 160 the lower one", 159, () -> pitchTo(600, 773, -100));
    }

    private static void wholeSeconds(Checks c) {
        MixBooth x = Booths.playing();
        x.go(99);
        c.is("40: 99 ticks are no whole second", 0, () -> x.seconds(0));
        x.go(1);
        c.is("40: 100 ticks are one", 1, () -> x.seconds(0));
        x.go(99);
        c.is("40: 199 ticks are one", 1, () -> x.seconds(0));
        x.go(1);
        c.is("40: 200 ticks are two", 2, () -> x.seconds(0));
    }

    /** A second that sums up to this: a deck of the loudness 1 for so many ticks, and one of 100 for the rest. */
    private static MixBooth secondOf(int sum) {
        MixBooth x = new MixBooth();
        x.addRecord(600, 999, 0, 0, 8, 0, 0);
        x.load(0, 0);
        x.play(0);
        x.setFader(0, 100);
        Booths.goFar(x, sum / 100);
        x.setFader(0, 1);
        Booths.goFar(x, sum % 100);
        x.setFader(0, 0);
        Booths.goFar(x, 99 - sum / 100 - sum % 100);
        return x;
    }

    private static void meanOfSecond(Checks c) {
        int[][] sums = {{0, 0, 0}, {49, 0, 0}, {99, 0, 0}, {100, 0, 1}, {149, 0, 1}, {149, 1, 0},
            {1080, 10, 0}, {1100, 10, 1}, {1100, 11, 0}};
        for (int[] s : sums) {
            MixBooth x = secondOf(s[0]);
            x.setLimit(0, s[1]);
            c.is("31: a tick is left", 99, x::ticks);
            x.go(1);
            c.is("42: the mean of " + s[0] + ", cut, at the limit " + s[1], s[2], x::breaches);
        }
    }

    private static int costTo(int tempo, int otherTempo) {
        MixBooth x = new MixBooth();
        x.addRecord(tempo, 16, 0, 0, 8, 0, 0);
        x.addRecord(otherTempo, 16, 0, 0, 8, 0, 0);
        x.load(0, 0);
        return x.cost(0, 1);
    }

    private static void tempoCosts(Checks c) {
        int[][] apart = {{0, 0}, {1, 0}, {9, 0}, {10, 1}, {11, 1}, {19, 1}, {20, 2}, {99, 9}, {100, 10}, {1399, 139},
            {1400, 140}};
        for (int[] pair : apart) {
            c.is("46: " + pair[0] + " tenths up", pair[1], () -> costTo(600, 600 + pair[0]));
            c.is("46: " + pair[0] + " tenths down", pair[1], () -> costTo(2000, 2000 - pair[0]));
        }
    }

    private static void figures(Checks c) {
        MixBooth x = new MixBooth();
        x.addRecord(600, 999, 0, 0, 8, 0, 0);
        x.load(0, 0);
        x.play(0);
        x.go(1);
        x.setFader(0, 1);
        x.go(2);
        c.is("57: a third as a float", 1.0f / 3.0f, x::silentShare);
        c.is("58: two thirds as a double", 2.0 / 3.0, x::meanLoudness);
        x.go(997);
        c.is("57: a thousandth as a float", 0.001f, x::silentShare);
        c.is("58: 999 thousandths as a double", 0.999, x::meanLoudness);
        x.setFader(0, 0);
        x.go(1);
        c.is("57: 2 of 1001", 2.0f / 1001.0f, x::silentShare);
        c.is("58: 999 of 1001", 999.0 / 1001.0, x::meanLoudness);
        c.is("18: no part of a beat is lost", 1000 * 600000L + 600000L, () -> x.place(0));
        c.is("18: 10 beats and a hundredth", 10 * BEAT + BEAT / 100, () -> x.place(0));
    }
}
