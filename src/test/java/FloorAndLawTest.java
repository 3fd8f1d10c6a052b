import java.util.NoSuchElementException;

/** Promises 38 to 44: people, how tired they are, what was heard, limits, breaches and lights. */
public final class FloorAndLawTest {
    private static final Class<IllegalArgumentException> WRONG = IllegalArgumentException.class;
    private static final Class<IndexOutOfBoundsException> NO_SUCH = IndexOutOfBoundsException.class;
    private static final Class<NoSuchElementException> NONE = NoSuchElementException.class;

    private FloorAndLawTest() {
    }

    public static void main(String[] args) {
        Checks c = new Checks("FloorAndLawTest");
        nothingHeard(c);
        tastes(c);
        bestOfSeveral(c);
        tiredOut(c);
        banned(c);
        groups(c);
        seconds(c);
        limits(c);
        hours(c);
        strobe(c);
        light(c);
        c.end();
    }

    /** A record of this key and energy that plays for long, heard on deck 0. */
    private static MixBooth dance(int key, int energy) {
        MixBooth x = new MixBooth();
        x.addRecord(600, 999, key, energy, 8, 0, 0);
        x.load(0, 0);
        x.setFader(0, 30);
        x.play(0);
        return x;
    }

    private static void nothingHeard(Checks c) {
        MixBooth x = dance(0, 3);
        x.setFader(0, 29);
        x.go(99);
        c.is("38: ahead of the second", 120, () -> x.people(-1));
        x.go(1);
        c.is("38: 1 of each group leaves", 114, () -> x.people(-1));
        c.is("39: nobody is more tired", 0, () -> x.tired(0));
        Booths.goFar(x, 1800);
        c.is("38: 1 left of each", 6, () -> x.people(-1));
        x.go(200);
        c.is("38: nobody goes below 0", 0, () -> x.people(-1));
        x.setFader(0, 30);
        x.go(100);
        c.is("38: one comes again", 1, () -> x.people(0));
    }

    private static void tastes(Checks c) {
        int[] apartOf = {0, 1, 2, 3, 5, 6, 7};
        int[] people = {21, 21, 21, 20, 20, 19, 19};
        int[] tired = {2, 2, 2, 1, 1, 0, 0};
        for (int group = 0; group < 6; group++) {
            int g = group;
            for (int i = 0; i < apartOf.length; i++) {
                int off = apartOf[i];
                int energy = g + 3 >= off ? g + 3 - off : g + 3 + off;
                int key = 4 * g;
                if (energy > 9) {
                    energy = g + 3;
                    key = off <= 6 ? (4 * g + off) % 12 + 4 * g / 12 * 12 : (4 * g + 6) % 12 + (4 * g < 12 ? 12 : 0);
                }
                MixBooth x = dance(key, energy);
                x.go(100);
                int due = people[i];
                int dueTired = tired[i];
                c.is("38: group " + g + " at " + off, due, () -> x.people(g));
                c.is("39: group " + g + " at " + off, dueTired, () -> x.tired(g));
            }
        }
        MixBooth x = dance(3, 0);
        x.go(100);
        c.is("38: keys and energies together, 3 and 3", 19, () -> x.people(0));
        c.is("38: 1 and 3 less, for the key 4, group 1", 20, () -> x.people(1));
    }

    private static void bestOfSeveral(Checks c) {
        MixBooth x = dance(6, 9);
        x.addRecord(600, 999, 0, 3, 8, 0, 0);
        x.load(3, 1);
        x.setFader(3, 30);
        x.play(3);
        x.go(100);
        c.is("38: the best one", 21, () -> x.people(0));
        x.setFader(3, 29);
        x.go(100);
        c.is("38: the best one that is heard", 20, () -> x.people(0));
        c.is("39: 3 less tired, 0 at least", 0, () -> x.tired(0));
    }

    private static void tiredOut(Checks c) {
        MixBooth x = dance(0, 3);
        Booths.goFar(x, 2000);
        c.is("38: up to 40", 40, () -> x.people(0));
        c.is("39: 2 a second", 40, () -> x.tired(0));
        x.go(2000);
        c.is("38: still 40", 40, () -> x.people(0));
        x.go(900);
        c.is("39: 98", 98, () -> x.tired(0));
        c.is("38: nobody has left", 40, () -> x.people(0));
        x.go(100);
        c.is("39: 100 is 40 less", 60, () -> x.tired(0));
        c.is("38: 2 are lost", 38, () -> x.people(0));
        x.go(100);
        c.is("38: one comes", 39, () -> x.people(0));
        c.is("39: tired again", 62, () -> x.tired(0));
        MixBooth y = dance(0, 3);
        y.go(300);
        y.addRecord(600, 999, 6, 9, 8, 0, 0);
        y.stop(0);
        y.load(0, 1);
        y.play(0);
        y.go(100);
        c.is("39: 3 less", 3, () -> y.tired(0));
        y.go(100);
        c.is("39: 3 less", 0, () -> y.tired(0));
        y.go(100);
        c.is("39: 0 at least", 0, () -> y.tired(0));
        c.is("38: 3 have left", 20, () -> y.people(0));
    }

    private static void banned(Checks c) {
        MixBooth x = dance(0, 3);
        x.addRecord(600, 999, 8, 8, 8, 0, 0);
        x.load(1, 1);
        x.setFader(1, 30);
        x.play(1);
        x.ban(1, true);
        x.go(100);
        c.is("38: nobody comes while a banned one is heard", 20, () -> x.people(0));
        c.is("39: but it is as tired", 2, () -> x.tired(0));
        x.setFader(1, 29);
        x.go(100);
        c.is("38: it is not heard", 21, () -> x.people(0));
        x.setFader(1, 30);
        x.ban(1, false);
        x.go(100);
        c.is("38: it is not banned", 22, () -> x.people(0));
        x.ban(0, true);
        x.go(99);
        x.ban(0, false);
        x.go(1);
        c.is("38: as it is in that tick", 23, () -> x.people(0));
        MixBooth y = dance(6, 9);
        y.ban(0, true);
        y.go(100);
        c.is("38: people leave a banned one, too", 19, () -> y.people(0));
        MixBooth z = dance(3, 3);
        z.go(400);
        c.is("39: 1 more tired a second", 4, () -> z.tired(0));
        z.ban(0, true);
        z.go(100);
        c.is("38: nobody leaves because of a ban", 20, () -> z.people(0));
        c.is("39: it is 1 more tired, too", 5, () -> z.tired(0));
        z.addRecord(600, 99, 6, 9, 8, 0, 0);
        z.stop(0);
        z.load(0, 1);
        z.ban(1, true);
        z.play(0);
        z.go(100);
        c.is("38: 1 leaves", 19, () -> z.people(0));
        c.is("39: it is 3 less tired, too", 2, () -> z.tired(0));
    }

    private static void groups(Checks c) {
        MixBooth x = dance(0, 3);
        x.go(300);
        int sum = 0;
        for (int g = 0; g < 6; g++) {
            sum += x.people(g);
        }
        int all = sum;
        c.is("38: all", all, () -> x.people(-1));
        c.refused("38: no such group", WRONG, () -> x.people(6));
        c.refused("38: no such group", WRONG, () -> x.people(-2));
        c.refused("39: no such group", WRONG, () -> x.tired(6));
        c.refused("39: no such group", WRONG, () -> x.tired(-1));
    }

    private static void seconds(Checks c) {
        MixBooth x = dance(0, 3);
        x.addRecord(600, 16, 0, 3, 8, 0, 0);
        x.go(99);
        c.is("40: not yet a whole one", 0, () -> x.seconds(0));
        x.go(1);
        c.is("40: one", 1, () -> x.seconds(0));
        x.setFader(0, 29);
        x.go(100);
        c.is("40: not heard", 1, () -> x.seconds(0));
        x.setFader(0, 30);
        x.load(1, 0);
        x.setFader(1, 100);
        x.play(1);
        x.go(50);
        c.is("40: each deck by itself", 2, () -> x.seconds(0));
        c.is("40: another record", 0, () -> x.seconds(1));
        c.refused("40: no such record", NO_SUCH, () -> x.seconds(2));
        c.refused("40: no such record", NO_SUCH, () -> x.seconds(-1));
    }

    private static void limits(Checks c) {
        MixBooth x = dance(0, 9);
        x.setFader(0, 100);
        for (int i = 0; i < 4; i++) {
            int index = i;
            c.is("41: 1000 at first", 1000, () -> x.setLimit(index, 1000 - index));
            c.is("41: the one before", 1000 - i, () -> x.setLimit(index, 2000));
        }
        x.setLimit(0, 1000);
        x.go(100);
        c.is("42: at the limit", 0, x::breaches);
        x.setLimit(0, 999);
        x.go(99);
        c.is("42: ahead of the second's end", 0, x::breaches);
        x.go(1);
        c.is("42: above", 1, x::breaches);
        x.go(99);
        x.stop(0);
        x.setLimit(0, 989);
        x.go(1);
        c.is("42: the mean of the second", 2, x::breaches);
        x.play(0);
        x.go(99);
        x.stop(0);
        x.setLimit(0, 990);
        x.go(1);
        c.is("42: at the limit", 2, x::breaches);
        x.setLimit(0, 0);
        x.play(0);
        x.setFader(0, 1);
        x.go(9);
        x.stop(0);
        x.go(91);
        c.is("42: 90 in a second is cut to 0", 2, x::breaches);
        x.play(0);
        x.setBand(0, 0, 30);
        x.setBand(0, 1, 0);
        x.setBand(0, 2, 0);
        x.go(99);
        x.stop(0);
        x.go(1);
        c.is("42: 99 in a second is cut to 0, too", 2, x::breaches);
        x.play(0);
        x.go(100);
        c.is("42: 100 in a second is above 0", 3, x::breaches);
        c.is("41: the most", 0, () -> x.setLimit(0, 2000));
        c.refused("41: no such limit", WRONG, () -> x.setLimit(4, 0));
        c.refused("41: no such limit", WRONG, () -> x.setLimit(-1, 0));
        c.refused("41: above", WRONG, () -> x.setLimit(0, 2001));
        c.refused("41: below", WRONG, () -> x.setLimit(0, -1));
        c.is("41: as it was", 2000, () -> x.setLimit(0, 0));
    }

    private static void hours(Checks c) {
        MixBooth x = dance(0, 9);
        x.setFader(0, 30);
        x.loop(0, 6);
        x.setLimit(0, 299);
        Booths.goFar(x, 359900);
        c.is("42: each second of the first hour", 3599, x::breaches);
        x.go(100);
        c.is("42: its last second, by the first limit", 3600, x::breaches);
        x.go(100);
        c.is("42: the second hour, by the second limit", 3600, x::breaches);
        x.setLimit(0, 1000);
        x.setLimit(1, 299);
        x.go(100);
        c.is("42: the second limit", 3601, x::breaches);
        x.setLimit(1, 1000);
        x.setLimit(2, 299);
        Booths.goFar(x, 360000 - 200);
        c.is("42: up to the third hour", 3601, x::breaches);
        x.go(100);
        c.is("42: the third limit", 3602, x::breaches);
    }

    private static void strobe(Checks c) {
        MixBooth x = new MixBooth();
        c.is("43: least", 1, () -> x.strobe(1, 0));
        c.is("43: as it is", 10, () -> x.strobe(10, 7));
        c.is("43: cut by law", 10, () -> x.strobe(11, 3));
        c.is("43: cut by law", 10, () -> x.strobe(30, 3));
        c.refused("43: below", WRONG, () -> x.strobe(0, 3));
        c.refused("43: above", WRONG, () -> x.strobe(31, 3));
        c.refused("43: no such scene", WRONG, () -> x.strobe(5, 8));
        c.refused("43: no such scene", WRONG, () -> x.strobe(5, -1));
        c.is("43: logged", 4, x::logged);
    }

    private static void light(Checks c) {
        MixBooth x = dance(0, 3);
        c.is("44: the first beat", 0, x::light);
        x.strobe(5, 6);
        c.is("44: the scene", 6, x::light);
        x.jump(0, 2);
        c.is("44: modulo 8", 0, x::light);
        x.addRecord(600, 99, 0, 4, 8, 0, 0);
        x.load(1, 1);
        x.jump(1, 5);
        x.setFader(1, 30);
        c.is("44: it does not play", 0, x::light);
        x.play(1);
        c.is("44: the loudest", 3, x::light);
        x.setBand(1, 0, 0);
        c.is("44: by its loudness", 0, x::light);
        x.setBand(1, 0, 100);
        x.setFader(1, 29);
        x.setFader(0, 31);
        c.is("44: of those that are heard", 0, x::light);
        x.setFader(0, 50);
        x.setFader(1, 40);
        c.is("44: of several the first", 0, x::light);
        x.setFader(0, 29);
        x.setFader(1, 30);
        c.is("44: the only one", 3, x::light);
        x.setFader(1, 29);
        c.refused("44: nothing is heard", NONE, x::light);
        x.setFader(0, 30);
        for (int band = 0; band < 3; band++) {
            x.setBand(0, band, 0);
        }
        c.is("44: heard by its level alone", 0, x::light);
        c.refused("44: an empty booth", NONE, () -> new MixBooth().light());
    }
}
