import java.math.BigInteger;

/** What begins anew: the ring of keys, phrases, places in a beat, hours, lights, seconds and longs. */
public final class WrapAroundTest {
    private static final long BEAT = Booths.BEAT;

    private WrapAroundTest() {
    }

    public static void main(String[] args) {
        Checks c = new Checks("WrapAroundTest");
        ringOfKeys(c);
        tasteRoundTheRing(c);
        phrases(c);
        phraseBegins(c);
        placesInBeat(c);
        unitsInBeat(c);
        syncRoundBeat(c);
        loopRound(c);
        lights(c);
        lightBegins(c);
        hours(c);
        hoursAgain(c);
        everySecond(c);
        longsGoRound(c);
        c.end();
    }

    /** How far it is on a ring, from each key to the one that is so many on. */
    private static final int[] ON_RING = {0, 1, 2, 3, 4, 5, 6, 5, 4, 3, 2, 1};

    private static void ringOfKeys(Checks c) {
        for (int key = 0; key < 24; key++) {
            MixBooth inner = new MixBooth();
            MixBooth outer = new MixBooth();
            inner.addRecord(600, 16, key, 0, 8, 0, 0);
            outer.addRecord(600, 16, key, 0, 8, 0, 0);
            for (int on = 1; on < 12; on++) {
                inner.addRecord(600, 16, (key + on) % 12, 0, 8, 0, 0);
                outer.addRecord(600, 16, 12 + (key + on) % 12, 0, 8, 0, 0);
            }
            for (int on = 1; on < 12; on++) {
                int o = on;
                int toInner = ON_RING[on] + (key < 12 ? 0 : 1);
                int toOuter = ON_RING[on] + (key < 12 ? 1 : 0);
                c.is("4: from " + key + ", " + o + " on, inner", toInner, () -> inner.apart(0, o));
                c.is("4: back to " + key + ", inner", toInner, () -> inner.apart(o, 0));
                c.is("4: from " + key + ", " + o + " on, outer", toOuter, () -> outer.apart(0, o));
                c.is("4: back to " + key + ", outer", toOuter, () -> outer.apart(o, 0));
            }
            c.is("4: the same", 0, () -> inner.apart(0, 0));
        }
    }

    /** The group 2 likes the key 8, the group 3 the key 12: both are few steps round the end of their ring. */
    private static void tasteRoundTheRing(Checks c) {
        MixBooth x = new MixBooth();
        x.addRecord(600, 999, 1, 5, 8, 0, 0);
        x.load(0, 0);
        x.setFader(0, 30);
        x.play(0);
        x.go(100);
        c.is("38: from 1 to 8 it is 5, so nobody comes or leaves", 20, () -> x.people(2));
        c.is("39: 1 more tired", 1, () -> x.tired(2));
        MixBooth y = new MixBooth();
        y.addRecord(600, 999, 22, 6, 8, 0, 0);
        y.load(0, 0);
        y.setFader(0, 30);
        y.play(0);
        y.go(100);
        c.is("38: from 22 to 12 it is 2, so 1 comes", 21, () -> y.people(3));
        c.is("38: from 22 to the key 0 of the group 0 it is 3, and 3", 19, () -> y.people(0));
    }

    /** Two decks with the same record, whose phrase 0 alone has a voice, and bass. */
    private static void phrases(Checks c) {
        int[] lengths = {8, 16, 32};
        for (int length : lengths) {
            MixBooth x = new MixBooth();
            x.addRecord(600, 999, 0, 0, length, 1, 65534);
            for (int deck = 0; deck < 2; deck++) {
                x.load(deck, 0);
                x.setFader(deck, 100);
                x.play(deck);
            }
            int due = 0;
            for (int phrase = 0; phrase * length < 999; phrase++) {
                x.jump(0, phrase * length);
                x.jump(1, phrase * length);
                x.go(1);
                due += phrase % 16 == 0 ? 1 : 0;
                int sum = due;
                c.is("34: phrases of " + length + ", phrase " + phrase, sum, () -> x.clashes('v'));
                c.is("34: bass in phrases of " + length + ", phrase " + phrase, sum, () -> x.clashes('b'));
            }
        }
    }

    /** One unit ahead of the beat 96 it is still the phrase 11, modulo 16; at the beat 96 it is the phrase 12. */
    private static void phraseBegins(Checks c) {
        MixBooth x = new MixBooth();
        x.addRecord(1200, 100, 0, 0, 8, 1 << 11, 0);
        x.load(0, 0);
        x.load(1, 0);
        Booths.toUnitAheadOf(x, 0, 95);
        Booths.toUnitAheadOf(x, 1, 95);
        x.setFader(0, 100);
        x.setFader(1, 100);
        x.play(0);
        x.play(1);
        x.go(50);
        c.is("18: one unit ahead of it", 96 * BEAT - 1, () -> x.place(0));
        c.is("34: all in the phrase 11", 50, () -> x.clashes('v'));
        x.jump(0, 95);
        x.jump(1, 95);
        x.go(49);
        c.is("34: 49 more", 99, () -> x.clashes('v'));
        x.go(1);
        c.is("18: at the beat 96", 96 * BEAT, () -> x.place(0));
        c.is("34: it is the next phrase", 99, () -> x.clashes('v'));
    }

    /** A step of 600000 units is 10 thousandths of a beat. */
    private static void placesInBeat(Checks c) {
        MixBooth x = new MixBooth();
        x.addRecord(600, 99, 0, 0, 8, 0, 0);
        x.load(0, 0);
        x.load(1, 0);
        x.play(0);
        for (int steps = 1; steps <= 200; steps++) {
            x.go(1);
            int apart = steps * 10 % 1000;
            int due = apart < 500 ? apart : apart - 1000;
            int back = (1000 - apart) % 1000;
            int dueBack = back < 500 ? back : back - 1000;
            c.is("35: " + steps + " steps", due, () -> x.between(0, 1));
            c.is("35: " + steps + " steps, from the other one", dueBack, () -> x.between(1, 0));
        }
        x.jump(1, 98);
        c.is("35: 96 beats behind are none", 0, () -> x.between(0, 1));
        c.is("35: 96 beats ahead are none", 0, () -> x.between(1, 0));
    }

    private static void unitsInBeat(Checks c) {
        MixBooth x = Booths.withFour();
        Booths.toUnitAheadOf(x, 0, 90);
        c.is("35: one unit short of a beat is -1", -1, () -> x.between(0, 1));
        c.is("35: one unit is 0", 0, () -> x.between(1, 0));
        x.play(1);
        x.go(25);
        x.stop(1);
        c.is("35: one unit short of a half is 499", 499, () -> x.between(0, 1));
        c.is("35: one unit more than a half is -500", -500, () -> x.between(1, 0));
        c.is("35: a half is -500", -500, () -> x.between(1, 2));
        c.is("35: a half is -500, from both sides", -500, () -> x.between(2, 1));
    }

    private static void syncRoundBeat(Checks c) {
        MixBooth x = Booths.withFour();
        Booths.toUnitAheadOf(x, 0, 90);
        x.jump(1, 40);
        x.sync(1, 0);
        c.is("36: one unit back, into the beat before", 40 * BEAT - 1, () -> x.place(1));
        x.jump(2, 7);
        x.sync(1, 2);
        c.is("36: one unit on, into the next beat", 40 * BEAT, () -> x.place(1));
    }

    private static void loopRound(Checks c) {
        int[] lengths = {1, 2, 4, 8, 16, 32, 64};
        for (int power = 0; power < lengths.length; power++) {
            MixBooth x = new MixBooth();
            Booths.plain(x, 999);
            x.load(0, 0);
            x.jump(0, 3);
            x.loop(0, power);
            x.play(0);
            int length = lengths[power];
            Booths.goFar(x, 50 * length - 1);
            c.is("15: ahead of its end", (3 + length) * BEAT - Booths.STEP, () -> x.place(0));
            x.go(1);
            c.is("15: at its end it begins anew", 3 * BEAT, () -> x.place(0));
            Booths.goFar(x, 5 * 50 * length);
            c.is("15: and so on", 3 * BEAT, () -> x.place(0));
            x.jump(0, 998);
            x.go(1);
            long due = (3 + (998 - 3) % length) * BEAT + Booths.STEP;
            c.is("15: as often as that is so", due, () -> x.place(0));
        }
    }

    private static void lights(Checks c) {
        MixBooth x = new MixBooth();
        Booths.plain(x, 999);
        x.load(0, 0);
        x.setFader(0, 30);
        x.play(0);
        int[] beats = {0, 1, 2, 3, 4, 5, 6, 7, 8, 9, 15, 16, 17, 255, 256, 998};
        for (int scene = 0; scene < 8; scene++) {
            x.strobe(1, scene);
            for (int beat : beats) {
                x.jump(0, beat);
                int due = (scene + beat) % 8;
                c.is("44: scene " + scene + ", beat " + beat, due, x::light);
            }
        }
    }

    private static void lightBegins(Checks c) {
        MixBooth x = Booths.withOne();
        Booths.toUnitAheadOf(x, 0, 72);
        x.setFader(0, 30);
        x.strobe(1, 1);
        x.play(0);
        c.is("44: one unit ahead of the beat 72 it is the beat 71", 0, x::light);
        x.jump(0, 72);
        c.is("44: at the beat 72", 1, x::light);
    }

    private static MixBooth loudness300() {
        MixBooth x = new MixBooth();
        x.addRecord(600, 999, 0, 9, 8, 0, 0);
        x.load(0, 0);
        x.setFader(0, 30);
        x.loop(0, 6);
        x.play(0);
        return x;
    }

    /** Four seconds, in each of which another limit alone is too low: -10 + the one that was in force. */
    private static int limitOfNextSecond(MixBooth x) {
        int found = -1;
        for (int index = 0; index < 4; index++) {
            x.setLimit(index, 299);
            int before = x.breaches();
            x.go(100);
            found = x.breaches() > before ? found * 10 + index : found;
            x.setLimit(index, 300);
        }
        return found;
    }

    private static void hours(Checks c) {
        MixBooth x = loudness300();
        c.is("42: the first limit alone", -10, () -> limitOfNextSecond(x));
        Booths.goFar(x, 360000 - 400 - 400);
        c.is("42: the first limit up to the end of the hour", -10, () -> limitOfNextSecond(x));
        c.is("31: an hour is gone", 360000, x::ticks);
        c.is("42: then the second limit", -9, () -> limitOfNextSecond(x));
        Booths.goFar(x, 360000 - 400 - 400);
        c.is("42: up to the end of the second hour", -9, () -> limitOfNextSecond(x));
        c.is("31: two hours are gone", 720000, x::ticks);
        c.is("42: then the third limit", -8, () -> limitOfNextSecond(x));
    }

    /** The fourth hour and those behind it come later than call 512, so this is more than is promised. */
    private static void hoursAgain(Checks c) {
        MixBooth x = loudness300();
        int[] due = {-10, -9, -8, -7, -10, -9};
        for (int hour = 0; hour < due.length; hour++) {
            int h = hour;
            c.is("42: the limit of hour " + h, due[h], () -> limitOfNextSecond(x));
            Booths.goFar(x, 360000 - 400);
        }
    }

    private static void everySecond(Checks c) {
        MixBooth x = new MixBooth();
        for (int second = 1; second <= 30; second++) {
            int before = Math.max(0, 21 - second);
            int after = Math.max(0, 20 - second);
            x.go(99);
            c.is("38: ahead of the second " + second, before, () -> x.people(0));
            x.go(1);
            c.is("38: each 100th tick", after, () -> x.people(0));
        }
    }

    private static void longsGoRound(Checks c) {
        MixBooth x = new MixBooth();
        Booths.plain(x, 999);
        BigInteger print = BigInteger.valueOf(7);
        int[] beats = {998, 997, 5, 996};
        for (int deck = 0; deck < 4; deck++) {
            x.load(deck, 0);
            x.jump(deck, beats[deck]);
            print = print.multiply(BigInteger.valueOf(31)).add(BigInteger.valueOf(beats[deck] * BEAT));
        }
        Booths.goFar(x, 4300);
        long[] rest = {4300, 4300, 0, 0, 0, 0};
        for (long number : rest) {
            print = print.multiply(BigInteger.valueOf(31)).add(BigInteger.valueOf(number));
        }
        BigInteger all = print;
        c.is("55: more than a long holds", true, () -> all.bitLength() > 63);
        c.is("55: as longs go round", all.longValue(), x::print);
        c.is("56: as longs go round", all.longValue(), x::printAgain);
    }
}
