import java.util.ArrayList;
import java.util.Arrays;
import java.util.List;
import java.util.NoSuchElementException;

/**
 * The document once more, written straight from its words and without any thought of speed: the
 * tests compare it with the class, call by call. Its log is done again from nothing each time.
 */
public final class Model {
    static final long BEAT = 60000000;

    static class Rec {
        int tempo;
        int beats;
        int key;
        int energy;
        int phrase;
        int voices;
        int quiet;
        boolean banned;
        boolean requested;
        long ticksHeard;
    }

    static class Fx {
        char kind;
        int strength;
        int tail;
    }

    static class Dk {
        int rec = -1;
        long place;
        int pitch;
        boolean plays;
        int nudge;
        boolean brakes;
        int brakeTicks;
        boolean loops;
        long loopStart;
        long loopEnd;
        Integer[] cues = new Integer[4];
        boolean slips;
        long second;
        int fader;
        int[] bands = {100, 100, 100};
        char side = 'm';
        List<Fx> fx = new ArrayList<>();

        void clear() {
            rec = -1;
            place = 0;
            plays = false;
            nudge = 0;
            brakes = false;
            loops = false;
            cues = new Integer[4];
            slips = false;
        }

        Dk copy() {
            Dk d = new Dk();
            d.rec = rec;
            d.place = place;
            d.pitch = pitch;
            d.plays = plays;
            d.nudge = nudge;
            d.brakes = brakes;
            d.brakeTicks = brakeTicks;
            d.loops = loops;
            d.loopStart = loopStart;
            d.loopEnd = loopEnd;
            d.cues = cues.clone();
            d.slips = slips;
            d.second = second;
            d.fader = fader;
            d.bands = bands;
            d.side = side;
            d.fx = fx;
            return d;
        }
    }

    interface Act {
        void on(Model m);
    }

    final List<Rec> recs = new ArrayList<>();
    Dk[] dks = {new Dk(), new Dk(), new Dk(), new Dk()};
    int cross;
    int gone;
    int silent;
    int voiceTicks;
    int bassTicks;
    int last;
    final List<Integer> all = new ArrayList<>();
    final int[] crowd = {20, 20, 20, 20, 20, 20};
    final int[] wear = new int[6];
    final int[] limits = {1000, 1000, 1000, 1000};
    int breached;
    int scene;
    String text = "";
    final List<Character> causeLetters = new ArrayList<>();
    final List<Integer> causeNumbers = new ArrayList<>();
    final List<Act> log = new ArrayList<>();

    static void arg(boolean ok) {
        if (!ok) {
            throw new IllegalArgumentException();
        }
    }

    static void in(long x, long lo, long hi) {
        arg(lo <= x && x <= hi);
    }

    Dk dk(int deck) {
        if (deck < 0 || deck > 3) {
            throw new IndexOutOfBoundsException();
        }
        return dks[deck];
    }

    Rec rec(int r) {
        if (r < 0 || r >= recs.size()) {
            throw new IndexOutOfBoundsException();
        }
        return recs.get(r);
    }

    void full(Dk d) {
        if (d.rec < 0) {
            throw new UnsupportedOperationException();
        }
    }

    long end(Dk d) {
        return recs.get(d.rec).beats * BEAT;
    }

    public int addRecord(int tempo, int beats, int key, int energy, int phrase, int voices, int quiet) {
        in(tempo, 600, 2000);
        in(beats, 16, 999);
        in(key, 0, 23);
        in(energy, 0, 9);
        arg(phrase == 8 || phrase == 16 || phrase == 32);
        in(voices, 0, 65535);
        in(quiet, 0, 65535);
        if (recs.size() == 12) {
            throw new IllegalStateException();
        }
        Rec r = new Rec();
        r.tempo = tempo;
        r.beats = beats;
        r.key = key;
        r.energy = energy;
        r.phrase = phrase;
        r.voices = voices;
        r.quiet = quiet;
        recs.add(r);
        log.add(m -> m.addRecord(tempo, beats, key, energy, phrase, voices, quiet));
        return recs.size() - 1;
    }

    public int correct(int record, int tempo) {
        Rec r = rec(record);
        in(tempo, 600, 2000);
        for (Dk d : dks) {
            if (d.rec == record) {
                throw new UnsupportedOperationException();
            }
        }
        int before = r.tempo;
        r.tempo = tempo;
        log.add(m -> m.correct(record, tempo));
        return before;
    }

    static int keys(int a, int b) {
        int up = 0;
        for (int k = a % 12; k != b % 12; k = (k + 1) % 12) {
            up++;
        }
        int down = 0;
        for (int k = a % 12; k != b % 12; k = (k + 11) % 12) {
            down++;
        }
        boolean unlike = a < 12 && b >= 12 || a >= 12 && b < 12;
        return Math.min(up, down) + (unlike ? 1 : 0);
    }

    public int apart(int record, int other) {
        return keys(rec(record).key, rec(other).key);
    }

    public boolean ban(int record, boolean isBanned) {
        Rec r = rec(record);
        boolean before = r.banned;
        r.banned = isBanned;
        log.add(m -> m.ban(record, isBanned));
        return before;
    }

    public boolean request(int record) {
        Rec r = rec(record);
        boolean before = r.requested;
        r.requested = true;
        log.add(m -> m.request(record));
        return !before;
    }

    public int load(int deck, int record) {
        Dk d = dk(deck);
        rec(record);
        if (d.plays) {
            throw new UnsupportedOperationException();
        }
        int before = d.rec;
        d.clear();
        d.rec = record;
        log.add(m -> m.load(deck, record));
        return before;
    }

    public boolean play(int deck) {
        Dk d = dk(deck);
        full(d);
        log.add(m -> m.play(deck));
        return begin(d);
    }

    boolean begin(Dk d) {
        d.brakes = false;
        if (d.plays || d.place == end(d) - 1) {
            return false;
        }
        d.plays = true;
        return true;
    }

    public boolean stop(int deck) {
        Dk d = dk(deck);
        boolean before = d.plays;
        d.plays = false;
        d.brakes = false;
        log.add(m -> m.stop(deck));
        return before;
    }

    public int setPitch(int deck, int pitch) {
        Dk d = dk(deck);
        in(pitch, -160, 160);
        int before = d.pitch;
        d.pitch = pitch;
        log.add(m -> m.setPitch(deck, pitch));
        return before;
    }

    public int nudge(int deck, int ticks) {
        Dk d = dk(deck);
        in(ticks, -200, 200);
        full(d);
        int before = d.nudge;
        d.nudge = ticks;
        log.add(m -> m.nudge(deck, ticks));
        return before;
    }

    public boolean brake(int deck) {
        Dk d = dk(deck);
        full(d);
        brakeNow(d);
        log.add(m -> m.brake(deck));
        return d.plays;
    }

    void brakeNow(Dk d) {
        if (d.plays) {
            d.brakes = true;
            d.brakeTicks = 0;
        }
    }

    public int jump(int deck, int beat) {
        Dk d = dk(deck);
        full(d);
        in(beat, 0, recs.get(d.rec).beats - 1);
        long before = d.place / BEAT;
        d.place = beat * BEAT;
        log.add(m -> m.jump(deck, beat));
        return (int) before;
    }

    public int setCue(int deck, int cue) {
        Dk d = dk(deck);
        in(cue, 0, 3);
        full(d);
        log.add(m -> m.setCue(deck, cue));
        return cueAt(d, cue);
    }

    int cueAt(Dk d, int cue) {
        long beat = d.place / BEAT;
        if (2 * (d.place % BEAT) >= BEAT) {
            beat++;
        }
        if (beat == recs.get(d.rec).beats) {
            beat--;
        }
        d.cues[cue] = (int) beat;
        return (int) beat;
    }

    public int loop(int deck, int power) {
        Dk d = dk(deck);
        in(power, 0, 6);
        full(d);
        if (!loopFits(d, power)) {
            throw new IllegalStateException();
        }
        loopNow(d, power);
        log.add(m -> m.loop(deck, power));
        return (int) (d.loopEnd / BEAT);
    }

    boolean loopFits(Dk d, int power) {
        return (d.place / BEAT + (long) Math.pow(2, power)) * BEAT <= end(d);
    }

    void loopNow(Dk d, int power) {
        d.loops = true;
        d.loopStart = d.place - d.place % BEAT;
        d.loopEnd = d.loopStart + (long) Math.pow(2, power) * BEAT;
    }

    public boolean out(int deck) {
        Dk d = dk(deck);
        boolean before = d.loops;
        d.loops = false;
        log.add(m -> m.out(deck));
        return before;
    }

    public boolean slip(int deck, boolean isOn) {
        Dk d = dk(deck);
        full(d);
        boolean before = d.slips;
        slipNow(d, isOn);
        log.add(m -> m.slip(deck, isOn));
        return before;
    }

    void slipNow(Dk d, boolean isOn) {
        if (isOn == d.slips) {
            return;
        }
        d.slips = isOn;
        if (isOn) {
            d.second = d.place;
        } else {
            d.place = d.second;
        }
    }

    public long place(int deck) {
        Dk d = dk(deck);
        full(d);
        return d.place;
    }

    public int tempo(int deck) {
        Dk d = dk(deck);
        full(d);
        return pace(d);
    }

    int pace(Dk d) {
        return recs.get(d.rec).tempo * (1000 + d.pitch);
    }

    public boolean plays(int deck) {
        return dk(deck).plays;
    }

    public int on(int deck) {
        if (dk(deck).rec < 0) {
            throw new NoSuchElementException();
        }
        return dk(deck).rec;
    }

    public int setFader(int deck, int value) {
        Dk d = dk(deck);
        in(value, 0, 100);
        int before = d.fader;
        d.fader = value;
        log.add(m -> m.setFader(deck, value));
        return before;
    }

    public int setBand(int deck, int band, int value) {
        Dk d = dk(deck);
        in(band, 0, 2);
        in(value, 0, 100);
        int before = d.bands[band];
        d.bands[band] = value;
        log.add(m -> m.setBand(deck, band, value));
        return before;
    }

    public char setSide(int deck, char side) {
        Dk d = dk(deck);
        arg("lmr".indexOf(side) >= 0);
        char before = d.side;
        d.side = side;
        log.add(m -> m.setSide(deck, side));
        return before;
    }

    public int setCross(int value) {
        in(value, -100, 100);
        int before = cross;
        cross = value;
        log.add(m -> m.setCross(value));
        return before;
    }

    public int level(int deck) {
        return lev(dk(deck));
    }

    int lev(Dk d) {
        if (!d.plays) {
            return 0;
        }
        int share = 100;
        if (d.side == 'l') {
            share -= Math.max(cross, 0);
        }
        if (d.side == 'r') {
            share -= Math.max(-cross, 0);
        }
        return d.fader * share / 100;
    }

    int loud(Dk d) {
        if (d.rec < 0) {
            return 0;
        }
        return lev(d) * (recs.get(d.rec).energy + 1) * (d.bands[0] + d.bands[1] + d.bands[2]) / 300;
    }

    boolean isHeard(Dk d) {
        return lev(d) >= 30;
    }

    public int addEffect(int deck, char kind, int strength) {
        Dk d = dk(deck);
        arg("erc".indexOf(kind) >= 0);
        in(strength, 0, 100);
        if (d.fx.size() == 3) {
            throw new IllegalStateException();
        }
        Fx f = new Fx();
        f.kind = kind;
        f.strength = strength;
        d.fx.add(f);
        log.add(m -> m.addEffect(deck, kind, strength));
        return d.fx.size();
    }

    public int dropEffects(int deck) {
        Dk d = dk(deck);
        int before = d.fx.size();
        d.fx.clear();
        log.add(m -> m.dropEffects(deck));
        return before;
    }

    public int tail(int deck, int effect) {
        Dk d = dk(deck);
        if (effect < 0 || effect >= d.fx.size()) {
            throw new NoSuchElementException();
        }
        return d.fx.get(effect).tail;
    }

    public int go(int ticks) {
        in(ticks, 1, 2000);
        int before = silent;
        for (int i = 0; i < ticks; i++) {
            tick();
        }
        log.add(m -> m.go(ticks));
        return silent - before;
    }

    void tick() {
        for (Dk d : dks) {
            if (d.plays) {
                goOn(d);
            }
        }
        gone++;
        int sum = 0;
        for (Dk d : dks) {
            sum += sound(d);
        }
        last = Math.min(sum, 2000);
        all.add(last);
        if (last == 0) {
            silent++;
        }
        int voices = 0;
        int basses = 0;
        for (Dk d : dks) {
            if (isHeard(d)) {
                Rec r = recs.get(d.rec);
                r.ticksHeard++;
                long bit = d.place / BEAT / r.phrase % 16;
                voices += (r.voices & 1 << bit) != 0 ? 1 : 0;
                basses += (r.quiet & 1 << bit) == 0 && d.bands[0] >= 50 ? 1 : 0;
            }
        }
        voiceTicks += voices > 1 ? 1 : 0;
        bassTicks += basses > 1 ? 1 : 0;
        if (gone % 100 == 0) {
            for (int g = 0; g < 6; g++) {
                dance(g);
            }
            long second = 0;
            for (int i = gone - 100; i < gone; i++) {
                second += all.get(i);
            }
            if (second / 100 > limits[(gone - 1) / 360000 % 4]) {
                breached++;
            }
        }
    }

    void goOn(Dk d) {
        long step = pace(d);
        long tenth = step / 10;
        if (d.nudge > 0) {
            step += tenth;
            d.nudge--;
        } else if (d.nudge < 0) {
            step -= tenth;
            d.nudge++;
        }
        if (d.brakes) {
            step /= 2;
            for (int behind = 10; behind <= d.brakeTicks; behind += 10) {
                step /= 2;
            }
            d.brakeTicks++;
        }
        d.place += step;
        while (d.loops && d.place >= d.loopEnd) {
            d.place -= d.loopEnd - d.loopStart;
        }
        d.second = Math.min(d.second + step, end(d) - 1);
        if (d.brakes && d.brakeTicks == 50) {
            d.plays = false;
            d.brakes = false;
        }
        if (d.place >= end(d)) {
            d.place = end(d) - 1;
            d.plays = false;
            d.brakes = false;
        }
    }

    int sound(Dk d) {
        int source = loud(d);
        int tails = 0;
        boolean chop = false;
        for (Fx f : d.fx) {
            if (f.kind == 'c') {
                chop = true;
                continue;
            }
            int fresh = source * f.strength / 100;
            int part = f.kind == 'e' ? 20 : 50;
            if (fresh > f.tail) {
                f.tail = fresh;
            } else {
                f.tail -= f.tail / part + (f.tail % part > 0 ? 1 : 0);
            }
            tails += f.tail;
        }
        if (chop && d.place % BEAT * 2 >= BEAT) {
            source = 0;
        }
        return source + tails;
    }

    void dance(int g) {
        int best = Integer.MAX_VALUE;
        boolean banned = false;
        for (Dk d : dks) {
            if (isHeard(d)) {
                Rec r = recs.get(d.rec);
                best = Math.min(best, keys(r.key, 4 * g) + Math.abs(r.energy - g - 3));
                banned |= r.banned;
            }
        }
        if (best == Integer.MAX_VALUE) {
            crowd[g]--;
        } else if (best <= 2) {
            if (!banned) {
                crowd[g] = Math.min(40, crowd[g] + 1);
            }
            wear[g] += 2;
        } else if (best >= 6) {
            crowd[g]--;
            wear[g] = Math.max(0, wear[g] - 3);
        } else {
            wear[g] += 1;
        }
        crowd[g] = Math.max(0, crowd[g]);
        if (wear[g] >= 100) {
            crowd[g] = Math.max(0, crowd[g] - 2);
            wear[g] -= 40;
        }
    }

    public int ticks() {
        return gone;
    }

    public int heard() {
        return last;
    }

    public int silence() {
        return silent;
    }

    public int clashes(char what) {
        arg(what == 'v' || what == 'b');
        return what == 'v' ? voiceTicks : bassTicks;
    }

    public int between(int deck, int other) {
        Dk a = dk(deck);
        Dk b = dk(other);
        full(a);
        full(b);
        return off(a, b);
    }

    int off(Dk a, Dk b) {
        long units = a.place % BEAT - b.place % BEAT;
        if (units < 0) {
            units += BEAT;
        }
        long thousandths = units * 1000 / BEAT;
        return (int) (thousandths >= 500 ? thousandths - 1000 : thousandths);
    }

    public int sync(int deck, int other) {
        Dk a = dk(deck);
        Dk b = dk(other);
        full(a);
        full(b);
        if (deck == other) {
            throw new UnsupportedOperationException();
        }
        int best = 160;
        for (int p = 160; p >= -160; p--) {
            long tempo = recs.get(a.rec).tempo;
            if (Math.abs(tempo * (1000 + p) - pace(b)) <= Math.abs(tempo * (1000 + best) - pace(b))) {
                best = p;
            }
        }
        a.pitch = best;
        long inBeat = b.place % BEAT;
        long here = a.place - a.place % BEAT;
        long goal = here + inBeat - 2 * BEAT;
        for (long tried = here + inBeat - BEAT; tried <= here + inBeat + BEAT; tried += BEAT) {
            if (Math.abs(tried - a.place) < Math.abs(goal - a.place)) {
                goal = tried;
            }
        }
        if (goal < 0) {
            goal += BEAT;
        }
        if (goal >= end(a)) {
            goal -= BEAT;
        }
        a.place = goal;
        log.add(m -> m.sync(deck, other));
        return best;
    }

    public int ear(int deck, int other, int rounds) {
        Dk a = dk(deck);
        Dk b = dk(other);
        in(rounds, 1, 10);
        full(a);
        full(b);
        if (deck == other) {
            throw new UnsupportedOperationException();
        }
        List<Integer> heardThen = new ArrayList<>();
        for (int round = 0; round < rounds; round++) {
            heardThen.add(off(a, b));
            if (round > 0) {
                a.place -= heardThen.get(round - 1) / 2 * (BEAT / 1000);
                a.place = Math.min(Math.max(a.place, 0), end(a) - 1);
            }
        }
        log.add(m -> m.ear(deck, other, rounds));
        return off(a, b);
    }

    public int people(int group) {
        in(group, -1, 5);
        return group == -1 ? Arrays.stream(crowd).sum() : crowd[group];
    }

    public int tired(int group) {
        in(group, 0, 5);
        return wear[group];
    }

    public int seconds(int record) {
        return (int) (rec(record).ticksHeard / 100);
    }

    public int setLimit(int index, int loudness) {
        in(index, 0, 3);
        in(loudness, 0, 2000);
        int before = limits[index];
        limits[index] = loudness;
        log.add(m -> m.setLimit(index, loudness));
        return before;
    }

    public int breaches() {
        return breached;
    }

    public int strobe(int flashes, int newScene) {
        in(flashes, 1, 30);
        in(newScene, 0, 7);
        scene = newScene;
        log.add(m -> m.strobe(flashes, newScene));
        return Math.min(flashes, 10);
    }

    public int light() {
        Dk loudest = null;
        for (Dk d : dks) {
            if (isHeard(d) && (loudest == null || loud(d) > loud(loudest))) {
                loudest = d;
            }
        }
        if (loudest == null) {
            throw new NoSuchElementException();
        }
        return (int) ((scene + loudest.place / BEAT) % 8);
    }

    public int next(int deck, int depth) {
        return row(deck, depth)[1];
    }

    public int cost(int deck, int depth) {
        return row(deck, depth)[0];
    }

    /** The cost, then the first record: all rows are made, each by its number in base 12. */
    int[] row(int deck, int depth) {
        Dk d = dk(deck);
        in(depth, 1, 4);
        full(d);
        int[] best = null;
        for (int code = 0; code < Math.pow(12, depth); code++) {
            int[] row = new int[depth];
            int left = code;
            for (int i = depth - 1; i >= 0; i--) {
                row[i] = left % 12;
                left /= 12;
            }
            Integer cost = costOf(d.rec, row);
            if (cost != null && (best == null || cost < best[0])) {
                best = new int[] {cost, row[0]};
            }
        }
        if (best == null) {
            throw new NoSuchElementException();
        }
        return best;
    }

    Integer costOf(int from, int[] row) {
        int sum = 0;
        for (int i = 0; i < row.length; i++) {
            if (row[i] >= recs.size()) {
                return null;
            }
            Rec r = recs.get(row[i]);
            for (Dk d : dks) {
                if (d.rec == row[i]) {
                    return null;
                }
            }
            for (int k = 0; k < i; k++) {
                if (row[k] == row[i]) {
                    return null;
                }
            }
            if (r.banned || r.ticksHeard / 100 >= 10) {
                return null;
            }
            Rec before = recs.get(i == 0 ? from : row[i - 1]);
            sum += 10 * keys(before.key, r.key) + 4 * Math.abs(before.energy - r.energy)
                    + Math.abs(before.tempo - r.tempo) / 10;
            if (r.requested) {
                sum -= 15;
            }
        }
        return sum;
    }

    public int type(char sign) {
        if (text.length() == 30) {
            throw new IllegalStateException();
        }
        text += sign;
        return text.length();
    }

    public int wipe() {
        int before = text.length();
        text = "";
        return before;
    }

    public int perform() {
        String told = text;
        int fault = faultOf(told);
        if (fault >= 0) {
            refuse('t', fault);
            throw new IllegalArgumentException();
        }
        Dk[] kept = new Dk[4];
        for (int i = 0; i < 4; i++) {
            kept[i] = dks[i].copy();
        }
        int done = 0;
        int deck = -1;
        for (int i = 0; i < told.length(); i++) {
            char c = told.charAt(i);
            if ("ABCD".indexOf(c) >= 0) {
                deck = c - 'A';
                continue;
            }
            int start = i;
            int digit = 0;
            if ("cml+-f".indexOf(c) >= 0) {
                i++;
                digit = told.charAt(i) - '0';
            }
            char refusal = move(dks[deck], c, digit);
            if (refusal != 0) {
                dks = kept;
                refuse('m', start);
                causeLetters.add(refusal);
                causeNumbers.add(deck);
                throw new UnsupportedOperationException();
            }
            done++;
        }
        text = "";
        log.add(m -> {
            m.text = told;
            m.perform();
        });
        return done;
    }

    void refuse(char letter, int number) {
        causeLetters.clear();
        causeNumbers.clear();
        causeLetters.add(letter);
        causeNumbers.add(number);
    }

    /** What can be read is told by a pattern; the fault is where the longest beginning of such a text ends. */
    static int faultOf(String told) {
        String text = "([A-D]([psbxk]|[cm][0-3]|l[0-6]|[-+f][0-9])*)+";
        if (told.matches(text)) {
            return -1;
        }
        int good = 0;
        for (int length = 1; length <= told.length(); length++) {
            String begun = told.substring(0, length);
            if (begun.matches(text) || (begun + "0").matches(text)) {
                good = length;
            } else {
                break;
            }
        }
        return good;
    }

    char move(Dk d, char c, int digit) {
        if (c == 's') {
            d.plays = false;
            d.brakes = false;
            return 0;
        }
        if (c == 'f') {
            d.fader = Math.min(100, digit * 11);
            return 0;
        }
        if (c == 'x') {
            boolean wasOn = d.loops;
            d.loops = false;
            return wasOn ? 0 : 'i';
        }
        if (d.rec < 0) {
            return 'e';
        }
        if (c == 'p') {
            begin(d);
        } else if (c == 'b') {
            brakeNow(d);
        } else if (c == 'c') {
            if (d.cues[digit] == null) {
                return 'c';
            }
            d.place = d.cues[digit] * BEAT;
        } else if (c == 'm') {
            cueAt(d, digit);
        } else if (c == 'l') {
            if (!loopFits(d, digit)) {
                return 'l';
            }
            loopNow(d, digit);
        } else if (c == 'k') {
            slipNow(d, !d.slips);
        } else {
            d.nudge = (c == '+' ? 10 : -10) * digit;
        }
        return 0;
    }

    public char cause(int depth) {
        if (depth < 0 || depth >= causeLetters.size()) {
            throw new NoSuchElementException();
        }
        return causeLetters.get(depth);
    }

    public int causeNumber(int depth) {
        if (depth < 0 || depth >= causeNumbers.size()) {
            throw new NoSuchElementException();
        }
        return causeNumbers.get(depth);
    }

    public long skip(int deck, int beats) {
        Dk d = dk(deck);
        in(beats, 1, 32);
        full(d);
        d.place = Math.max(d.place - beats * BEAT, 0);
        log.add(m -> m.skip(deck, beats));
        return d.place;
    }

    public int loseStick(int deck) {
        Dk d = dk(deck);
        full(d);
        d.clear();
        log.add(m -> m.loseStick(deck));
        for (Dk other : dks) {
            if (isHeard(other)) {
                return -1;
            }
        }
        for (int i = 0; i < 4; i++) {
            Dk other = dks[i];
            if (i != deck && other.rec >= 0 && other.fader >= 30 && !other.plays && other.place != end(other) - 1) {
                other.plays = true;
                return i;
            }
        }
        return -1;
    }

    public int logged() {
        return log.size();
    }

    public long print() {
        long p = 7;
        for (Dk d : dks) {
            p = p * 31 + (d.rec < 0 ? 0 : d.place);
        }
        for (int number : new int[] {gone, silent, voiceTicks, bassTicks, people(-1), breached}) {
            p = p * 31 + number;
        }
        return p;
    }

    public long printAgain() {
        Model again = new Model();
        for (Act act : log) {
            act.on(again);
        }
        return again.print();
    }

    public float silentShare() {
        if (gone == 0) {
            throw new ArithmeticException();
        }
        return (float) silent / (float) gone;
    }

    public double meanLoudness() {
        if (gone == 0) {
            throw new ArithmeticException();
        }
        long sum = 0;
        for (int loudness : all) {
            sum += loudness;
        }
        return (double) sum / (double) gone;
    }

    public boolean isSound() {
        return printAgain() == print();
    }
}
