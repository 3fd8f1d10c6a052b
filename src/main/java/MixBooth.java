import java.util.NoSuchElementException;

/** A night of mixed records: four decks, a mixer, a floor, a law, and a log that mixes the night again. */
public final class MixBooth {
    private static final long BEAT = 60000000L;
    private static final int THOUSANDTH = 60000;
    private static final int TICKS_IN_SECOND = 100;
    private static final int TICKS_IN_HOUR = 360000;
    private static final int MOST_CALLS = 512;
    private static final int MOST_PITCH = 160;
    private static final int MOST_LOUDNESS = 2000;
    private static final int MOST_DEPTH = 4;
    private static final int HEARD_LEVEL = 30;
    private static final int PLAYED_OUT = 10;
    private static final int NONE = -1;

    private final Night night;
    private final Night nightAgain;
    private final Log log;
    private final Moves moves;
    private final Search search;
    private int redone;

    public MixBooth() {
        night = new Night();
        nightAgain = new Night();
        log = new Log();
        moves = new Moves();
        search = new Search(night);
    }

    // ---- records

    public int addRecord(int tempo, int beats, int key, int energy, int phrase, int voices, int quiet)
            throws IllegalArgumentException, IllegalStateException {
        demand(isTempo(tempo) && isIn(beats, 16, 999) && isIn(key, 0, 23) && isIn(energy, 0, 9));
        demand(phrase == 8 || phrase == 16 || phrase == 32);
        demand(isIn(voices, 0, 65535) && isIn(quiet, 0, 65535));
        if (night.discCount >= night.discs.length) {
            throw new IllegalStateException("there is no room for another record");
        }
        log.open(Log.ADD);
        log.put(tempo);
        log.put(beats);
        log.put(key);
        log.put(energy);
        log.put(phrase);
        log.put(voices);
        log.put(quiet);
        return night.addDisc(tempo, beats, key, energy, phrase, voices, quiet);
    }

    public int correct(int record, int tempo)
            throws IndexOutOfBoundsException, IllegalArgumentException, UnsupportedOperationException {
        Disc disc = discOf(record);
        demand(isTempo(tempo));
        if (night.isOnDeck(disc)) {
            throw new UnsupportedOperationException("the record is on a deck");
        }
        log.note(Log.CORRECT, record, tempo, 0);
        return disc.retune(tempo);
    }

    public int apart(int record, int other) throws IndexOutOfBoundsException {
        Disc one = discOf(record);
        return Disc.keysApart(one.key, discOf(other).key);
    }

    public boolean ban(int record, boolean isBanned) throws IndexOutOfBoundsException {
        Disc disc = discOf(record);
        log.note(Log.BAN, record, isBanned ? 1 : 0, 0);
        return disc.forbid(isBanned);
    }

    public boolean request(int record) throws IndexOutOfBoundsException {
        Disc disc = discOf(record);
        log.note(Log.REQUEST, record, 0, 0);
        return disc.wish();
    }

    // ---- decks

    public int load(int deck, int record) throws IndexOutOfBoundsException, UnsupportedOperationException {
        Deck d = deckOf(deck);
        Disc disc = discOf(record);
        if (d.playing) {
            throw new UnsupportedOperationException("the deck plays");
        }
        log.note(Log.LOAD, deck, record, 0);
        return d.putOn(disc);
    }

    public boolean play(int deck) throws IndexOutOfBoundsException, UnsupportedOperationException {
        Deck d = deckOf(deck);
        demandRecord(d);
        log.note(Log.PLAY, deck, 0, 0);
        return d.start();
    }

    public boolean stop(int deck) throws IndexOutOfBoundsException {
        Deck d = deckOf(deck);
        log.note(Log.STOP, deck, 0, 0);
        return d.halt();
    }

    public int setPitch(int deck, int pitch) throws IndexOutOfBoundsException, IllegalArgumentException {
        Deck d = deckOf(deck);
        demand(isIn(pitch, -MOST_PITCH, MOST_PITCH));
        log.note(Log.PITCH, deck, pitch, 0);
        return d.takePitch(pitch);
    }

    public int nudge(int deck, int ticks)
            throws IndexOutOfBoundsException, IllegalArgumentException, UnsupportedOperationException {
        Deck d = deckOf(deck);
        demand(isIn(ticks, -200, 200));
        demandRecord(d);
        log.note(Log.NUDGE, deck, ticks, 0);
        return d.push(ticks);
    }

    public boolean brake(int deck) throws IndexOutOfBoundsException, UnsupportedOperationException {
        Deck d = deckOf(deck);
        demandRecord(d);
        log.note(Log.BRAKE, deck, 0, 0);
        return d.slowDown();
    }

    public int jump(int deck, int beat)
            throws IndexOutOfBoundsException, UnsupportedOperationException, IllegalArgumentException {
        Deck d = deckOf(deck);
        demandRecord(d);
        demand(d.hasBeat(beat));
        log.note(Log.JUMP, deck, beat, 0);
        return d.jumpTo(beat);
    }

    public int setCue(int deck, int cue)
            throws IndexOutOfBoundsException, IllegalArgumentException, UnsupportedOperationException {
        Deck d = deckOf(deck);
        demand(isIn(cue, 0, 3));
        demandRecord(d);
        log.note(Log.CUE, deck, cue, 0);
        return d.mark(cue);
    }

    public int loop(int deck, int power) throws IndexOutOfBoundsException, IllegalArgumentException,
            UnsupportedOperationException, IllegalStateException {
        Deck d = deckOf(deck);
        demand(isIn(power, 0, 6));
        demandRecord(d);
        if (!d.hasRoomFor(power)) {
            throw new IllegalStateException("the loop goes beyond the record");
        }
        log.note(Log.LOOP, deck, power, 0);
        return d.turnRound(power);
    }

    public boolean out(int deck) throws IndexOutOfBoundsException {
        Deck d = deckOf(deck);
        log.note(Log.OUT, deck, 0, 0);
        return d.leaveLoop();
    }

    public boolean slip(int deck, boolean isOn) throws IndexOutOfBoundsException, UnsupportedOperationException {
        Deck d = deckOf(deck);
        demandRecord(d);
        log.note(Log.SLIP, deck, isOn ? 1 : 0, 0);
        return d.turnSlip(isOn);
    }

    public long place(int deck) throws IndexOutOfBoundsException, UnsupportedOperationException {
        Deck d = deckOf(deck);
        demandRecord(d);
        return d.place;
    }

    public int tempo(int deck) throws IndexOutOfBoundsException, UnsupportedOperationException {
        Deck d = deckOf(deck);
        demandRecord(d);
        return d.pace();
    }

    public boolean plays(int deck) throws IndexOutOfBoundsException {
        return deckOf(deck).playing;
    }

    public int on(int deck) throws IndexOutOfBoundsException, NoSuchElementException {
        Disc disc = deckOf(deck).disc;
        if (disc == null) {
            throw new NoSuchElementException("the deck is empty");
        }
        return disc.number;
    }

    // ---- mixer and effects

    public int setFader(int deck, int value) throws IndexOutOfBoundsException, IllegalArgumentException {
        Deck d = deckOf(deck);
        demand(isIn(value, 0, 100));
        log.note(Log.FADER, deck, value, 0);
        return d.channel.slide(value);
    }

    public int setBand(int deck, int band, int value) throws IndexOutOfBoundsException, IllegalArgumentException {
        Deck d = deckOf(deck);
        demand(isIn(band, 0, 2) && isIn(value, 0, 100));
        log.note(Log.BAND, deck, band, value);
        return d.channel.turnBand(band, value);
    }

    public char setSide(int deck, char side) throws IndexOutOfBoundsException, IllegalArgumentException {
        Deck d = deckOf(deck);
        demand(side == 'l' || side == 'm' || side == 'r');
        log.note(Log.SIDE, deck, side, 0);
        return d.channel.changeSide(side);
    }

    public int setCross(int value) throws IllegalArgumentException {
        demand(isIn(value, -100, 100));
        log.note(Log.CROSS, value, 0, 0);
        return night.slideCross(value);
    }

    public int level(int deck) throws IndexOutOfBoundsException {
        return deckOf(deck).levelAt(night.cross);
    }

    public int addEffect(int deck, char kind, int strength)
            throws IndexOutOfBoundsException, IllegalArgumentException, IllegalStateException {
        Deck d = deckOf(deck);
        demand(kind == 'e' || kind == 'r' || kind == 'c');
        demand(isIn(strength, 0, 100));
        if (d.channel.effectCount >= d.channel.effects.length) {
            throw new IllegalStateException("the deck has no room for another effect");
        }
        log.note(Log.EFFECT, deck, kind, strength);
        return d.channel.plugIn(kind, strength);
    }

    public int dropEffects(int deck) throws IndexOutOfBoundsException {
        Deck d = deckOf(deck);
        log.note(Log.DROP, deck, 0, 0);
        return d.channel.unplug();
    }

    public int tail(int deck, int effect) throws IndexOutOfBoundsException, NoSuchElementException {
        Effect found = deckOf(deck).channel.effectAt(effect);
        if (found == null) {
            throw new NoSuchElementException("there is no such effect");
        }
        return found.tail;
    }

    // ---- the night

    public int go(int ticks) throws IllegalArgumentException {
        demand(isIn(ticks, 1, 2000));
        log.note(Log.GO, ticks, 0, 0);
        return night.run(ticks);
    }

    public int ticks() {
        return night.ticks;
    }

    public int heard() {
        return night.lastLoudness;
    }

    public int silence() {
        return night.silentTicks;
    }

    public int clashes(char what) throws IllegalArgumentException {
        demand(what == 'v' || what == 'b');
        return what == 'v' ? night.voiceClashes : night.bassClashes;
    }

    public int between(int deck, int other) throws IndexOutOfBoundsException, UnsupportedOperationException {
        Deck one = deckOf(deck);
        Deck two = deckOf(other);
        demandRecord(one);
        demandRecord(two);
        return one.thousandthsFrom(two);
    }

    public int sync(int deck, int other) throws IndexOutOfBoundsException, UnsupportedOperationException {
        Deck one = deckOf(deck);
        Deck two = deckOf(other);
        demandPair(one, two);
        log.note(Log.SYNC, deck, other, 0);
        return one.lockTo(two);
    }

    public int ear(int deck, int other, int rounds)
            throws IndexOutOfBoundsException, IllegalArgumentException, UnsupportedOperationException {
        Deck one = deckOf(deck);
        Deck two = deckOf(other);
        demand(isIn(rounds, 1, 10));
        demandPair(one, two);
        log.note(Log.EAR, deck, other, rounds);
        return one.listenTo(two, rounds);
    }

    public int people(int group) throws IllegalArgumentException {
        demand(isIn(group, NONE, Floor.GROUPS - 1));
        return group == NONE ? night.floor.everybody() : night.floor.sizeOf(group);
    }

    public int tired(int group) throws IllegalArgumentException {
        demand(isIn(group, 0, Floor.GROUPS - 1));
        return night.floor.wearOf(group);
    }

    public int seconds(int record) throws IndexOutOfBoundsException {
        return discOf(record).wholeSeconds();
    }

    public int setLimit(int index, int loudness) throws IllegalArgumentException {
        demand(isIn(index, 0, 3) && isIn(loudness, 0, MOST_LOUDNESS));
        log.note(Log.LIMIT, index, loudness, 0);
        return night.law.change(index, loudness);
    }

    public int breaches() {
        return night.law.breachCount;
    }

    public int strobe(int flashes, int scene) throws IllegalArgumentException {
        demand(isIn(flashes, 1, 30) && isIn(scene, 0, 7));
        log.note(Log.STROBE, flashes, scene, 0);
        return night.setLights(flashes, scene);
    }

    public int light() throws NoSuchElementException {
        Deck loudest = night.loudestDeck();
        if (loudest == null) {
            throw new NoSuchElementException("nothing is heard");
        }
        return (night.scene + loudest.beatNow()) % 8;
    }

    // ---- what is next

    public int next(int deck, int depth) throws IndexOutOfBoundsException, IllegalArgumentException,
            UnsupportedOperationException, NoSuchElementException {
        searchFrom(deck, depth);
        return search.firstOfRow();
    }

    public int cost(int deck, int depth) throws IndexOutOfBoundsException, IllegalArgumentException,
            UnsupportedOperationException, NoSuchElementException {
        searchFrom(deck, depth);
        return search.leastCost;
    }

    // ---- moves

    public int type(char sign) throws IllegalStateException {
        if (moves.length >= moves.signs.length) {
            throw new IllegalStateException("the text is full");
        }
        return moves.append(sign);
    }

    public int wipe() {
        return moves.empty();
    }

    public int perform() throws IllegalArgumentException, UnsupportedOperationException {
        if (!moves.isReadable()) {
            throw new IllegalArgumentException("the text cannot be read");
        }
        if (!moves.canBeDone(night.decks)) {
            throw new UnsupportedOperationException("a move cannot be done");
        }
        int from = log.noteText(moves.signs, moves.length);
        log.note(Log.PERFORM, from, from + moves.length, 0);
        int done = moves.doAll(night.decks, moves.signs, 0, moves.length);
        moves.empty();
        return done;
    }

    public char cause(int depth) throws NoSuchElementException {
        demandCause(depth);
        return moves.causeSign(depth);
    }

    public int causeNumber(int depth) throws NoSuchElementException {
        demandCause(depth);
        return moves.causePlace(depth);
    }

    // ---- faults and the log

    public long skip(int deck, int beats)
            throws IndexOutOfBoundsException, IllegalArgumentException, UnsupportedOperationException {
        Deck d = deckOf(deck);
        demand(isIn(beats, 1, 32));
        demandRecord(d);
        log.note(Log.SKIP, deck, beats, 0);
        return d.skipBack(beats);
    }

    public int loseStick(int deck) throws IndexOutOfBoundsException, UnsupportedOperationException {
        Deck d = deckOf(deck);
        demandRecord(d);
        log.note(Log.LOSE, deck, 0, 0);
        return night.loseDisc(d);
    }

    public int logged() {
        return log.acts;
    }

    public long print() {
        return night.fingerprint();
    }

    public long printAgain() {
        redoLog();
        return nightAgain.fingerprint();
    }

    // ---- figures

    public float silentShare() throws ArithmeticException {
        demandTicks();
        return (float) night.silentTicks / (float) night.ticks;
    }

    public double meanLoudness() throws ArithmeticException {
        demandTicks();
        return (double) night.loudnessSum / (double) night.ticks;
    }

    public boolean isSound() {
        redoLog();
        return night.fingerprint() == nightAgain.fingerprint()
                && night.placesAreSound()
                && night.floor.isInBounds()
                && rowsAreSound();
    }

    // ---- what calls have in common

    private static boolean isIn(int number, int least, int most) {
        return number >= least && number <= most;
    }

    private static boolean isTempo(int tempo) {
        return isIn(tempo, 600, 2000);
    }

    private static void demand(boolean isRight) {
        if (!isRight) {
            throw new IllegalArgumentException("an argument is out of range");
        }
    }

    private static void demandRecord(Deck deck) {
        if (deck.disc == null) {
            throw new UnsupportedOperationException("the deck is empty");
        }
    }

    private static void demandPair(Deck one, Deck two) {
        demandRecord(one);
        demandRecord(two);
        if (one == two) {
            throw new UnsupportedOperationException("both decks are the same");
        }
    }

    private void demandTicks() {
        if (night.ticks == 0) {
            throw new ArithmeticException("no tick is gone");
        }
    }

    private void demandCause(int depth) {
        if (depth < 0 || depth >= moves.causeCount) {
            throw new NoSuchElementException("there is no cause so deep");
        }
    }

    private Deck deckOf(int deck) {
        Deck found = night.deckAt(deck);
        if (found == null) {
            throw new IndexOutOfBoundsException("there is no such deck");
        }
        return found;
    }

    private Disc discOf(int record) {
        Disc found = night.discAt(record);
        if (found == null) {
            throw new IndexOutOfBoundsException("there is no such record");
        }
        return found;
    }

    private void searchFrom(int deck, int depth) {
        Deck d = deckOf(deck);
        demand(isIn(depth, 1, MOST_DEPTH));
        demandRecord(d);
        if (!search.look(d.disc, depth)) {
            throw new NoSuchElementException("there are not so many records");
        }
    }

    private boolean rowsAreSound() {
        for (int i = 0; i < night.decks.length; i++) {
            Disc from = night.decks[i].disc;
            for (int depth = 1; from != null && depth <= MOST_DEPTH; depth++) {
                if (search.look(from, depth) && search.leastCost != search.costOfRow(from)) {
                    return false;
                }
            }
        }
        return true;
    }

    // The other night does nothing but the acts of the log, each once, from the first one on. So it
    // stands where a night that begins anew would stand, and only new acts cost time and room.
    private void redoLog() {
        for (; redone < log.acts; redone++) {
            int a = log.numberAt(redone, 1);
            int b = log.numberAt(redone, 2);
            switch (log.numberAt(redone, 0)) {
                case Log.ADD: redoAdd(redone); break;
                case Log.CORRECT: redoOnDisc(redone); break;
                case Log.BAN: redoOnDisc(redone); break;
                case Log.REQUEST: redoOnDisc(redone); break;
                case Log.CROSS: nightAgain.slideCross(a); break;
                case Log.GO: nightAgain.run(a); break;
                case Log.LIMIT: nightAgain.law.change(a, b); break;
                case Log.STROBE: nightAgain.setLights(a, b); break;
                case Log.PERFORM: moves.doAll(nightAgain.decks, log.letters, a, b); break;
                default: redoOnDeck(redone); break;
            }
        }
    }

    private void redoAdd(int act) {
        nightAgain.addDisc(log.numberAt(act, 1), log.numberAt(act, 2), log.numberAt(act, 3), log.numberAt(act, 4),
                log.numberAt(act, 5), log.numberAt(act, 6), log.numberAt(act, 7));
    }

    private void redoOnDisc(int act) {
        Disc disc = nightAgain.discAt(log.numberAt(act, 1));
        int number = log.numberAt(act, 2);
        if (disc == null) {
            return;
        }
        switch (log.numberAt(act, 0)) {
            case Log.CORRECT: disc.retune(number); break;
            case Log.BAN: disc.forbid(number == 1); break;
            case Log.REQUEST: disc.wish(); break;
            default: break;
        }
    }

    private void redoOnDeck(int act) {
        Deck d = nightAgain.deckAt(log.numberAt(act, 1));
        int b = log.numberAt(act, 2);
        int c = log.numberAt(act, 3);
        if (d == null) {
            return;
        }
        switch (log.numberAt(act, 0)) {
            case Log.LOAD: d.putOn(nightAgain.discAt(b)); break;
            case Log.PLAY: d.start(); break;
            case Log.STOP: d.halt(); break;
            case Log.PITCH: d.takePitch(b); break;
            case Log.NUDGE: d.push(b); break;
            case Log.BRAKE: d.slowDown(); break;
            case Log.JUMP: d.jumpTo(b); break;
            case Log.CUE: d.mark(b); break;
            case Log.LOOP: d.turnRound(b); break;
            case Log.OUT: d.leaveLoop(); break;
            case Log.SLIP: d.turnSlip(b == 1); break;
            case Log.FADER: d.channel.slide(b); break;
            case Log.BAND: d.channel.turnBand(b, c); break;
            case Log.SIDE: d.channel.changeSide((char) b); break;
            case Log.EFFECT: d.channel.plugIn((char) b, c); break;
            case Log.DROP: d.channel.unplug(); break;
            case Log.SYNC: d.lockTo(nightAgain.deckAt(b)); break;
            case Log.EAR: d.listenTo(nightAgain.deckAt(b), c); break;
            case Log.SKIP: d.skipBack(b); break;
            case Log.LOSE: nightAgain.loseDisc(d); break;
            default: break;
        }
    }

    /** A record. */
    private static final class Disc {
        private static final int KEYS_IN_RING = 12;

        final int number;
        int tempo;
        int beats;
        int key;
        int energy;
        int phrase;
        int voices;
        int quiet;
        boolean banned;
        boolean requested;
        int heardTicks;

        Disc(int number) {
            this.number = number;
        }

        void fill(int newTempo, int newBeats, int newKey, int newEnergy, int newPhrase, int newVoices, int newQuiet) {
            tempo = newTempo;
            beats = newBeats;
            key = newKey;
            energy = newEnergy;
            phrase = newPhrase;
            voices = newVoices;
            quiet = newQuiet;
        }

        static int keysApart(int one, int two) {
            int way = Math.abs(one % KEYS_IN_RING - two % KEYS_IN_RING);
            int shorter = Math.min(way, KEYS_IN_RING - way);
            return one / KEYS_IN_RING == two / KEYS_IN_RING ? shorter : shorter + 1;
        }

        int retune(int newTempo) {
            int before = tempo;
            tempo = newTempo;
            return before;
        }

        boolean forbid(boolean isBanned) {
            boolean before = banned;
            banned = isBanned;
            return before;
        }

        boolean wish() {
            boolean isNew = !requested;
            requested = true;
            return isNew;
        }

        long lastPlace() {
            return beats * BEAT - 1;
        }

        boolean hasVoiceAt(long place) {
            return hasBitAt(voices, place);
        }

        boolean hasBassAt(long place) {
            return !hasBitAt(quiet, place);
        }

        private boolean hasBitAt(int bits, long place) {
            if (phrase <= 0) {
                return false;
            }
            int phraseNumber = (int) (place / BEAT) / phrase;
            return (bits >> phraseNumber % 16 & 1) == 1;
        }

        int wholeSeconds() {
            return heardTicks / TICKS_IN_SECOND;
        }

        int stepCost(Disc next) {
            int keys = keysApart(key, next.key);
            int energies = Math.abs(energy - next.energy);
            int tempos = Math.abs(tempo - next.tempo) / 10;
            return 10 * keys + 4 * energies + tempos - (next.requested ? 15 : 0);
        }
    }

    /** A deck with what stands on it. */
    private static final class Deck {
        private static final int CUES = 4;
        private static final int BRAKE_TICKS = 50;

        final Channel channel;
        final int[] cues;
        Disc disc;
        long place;
        int pitch;
        boolean playing;
        int nudged;
        int braked;
        int loopFrom;
        int loopTo;
        boolean slipping;
        long slipPlace;

        Deck() {
            channel = new Channel();
            cues = new int[CUES];
            braked = NONE;
            loopFrom = NONE;
        }

        int putOn(Disc newDisc) {
            int before = disc == null ? NONE : disc.number;
            takeOff();
            disc = newDisc;
            return before;
        }

        void takeOff() {
            disc = null;
            place = 0;
            playing = false;
            nudged = 0;
            braked = NONE;
            loopFrom = NONE;
            slipping = false;
            for (int i = 0; i < cues.length; i++) {
                cues[i] = NONE;
            }
        }

        // The channel is left out: moves touch its fader alone, which never decides whether a
        // later move can be done.
        void copyFrom(Deck other) {
            disc = other.disc;
            place = other.place;
            pitch = other.pitch;
            playing = other.playing;
            nudged = other.nudged;
            braked = other.braked;
            loopFrom = other.loopFrom;
            loopTo = other.loopTo;
            slipping = other.slipping;
            slipPlace = other.slipPlace;
            for (int i = 0; i < cues.length && i < other.cues.length; i++) {
                cues[i] = other.cues[i];
            }
        }

        boolean start() {
            boolean begins = !playing && disc != null && place < disc.lastPlace();
            braked = NONE;
            playing = playing || begins;
            return begins;
        }

        boolean halt() {
            boolean before = playing;
            playing = false;
            braked = NONE;
            return before;
        }

        int takePitch(int newPitch) {
            int before = pitch;
            pitch = newPitch;
            return before;
        }

        int push(int ticks) {
            int before = nudged;
            nudged = ticks;
            return before;
        }

        boolean slowDown() {
            if (playing) {
                braked = 0;
            }
            return playing;
        }

        int beatNow() {
            return (int) (place / BEAT);
        }

        boolean hasBeat(int beat) {
            return disc != null && beat >= 0 && beat < disc.beats;
        }

        int jumpTo(int beat) {
            int before = beatNow();
            place = beat * BEAT;
            return before;
        }

        int mark(int cue) {
            if (disc == null || cue < 0 || cue >= cues.length) {
                return NONE;
            }
            int nearest = (int) ((place + BEAT / 2) / BEAT);
            cues[cue] = Math.min(nearest, disc.beats - 1);
            return cues[cue];
        }

        boolean jumpToCue(int cue) {
            if (cue < 0 || cue >= cues.length || cues[cue] == NONE) {
                return false;
            }
            place = cues[cue] * BEAT;
            return true;
        }

        boolean hasRoomFor(int power) {
            return disc != null && beatNow() + (1 << power) <= disc.beats;
        }

        int turnRound(int power) {
            loopFrom = beatNow();
            loopTo = loopFrom + (1 << power);
            return loopTo;
        }

        boolean leaveLoop() {
            boolean wasOn = loopFrom != NONE;
            loopFrom = NONE;
            return wasOn;
        }

        boolean turnSlip(boolean isOn) {
            boolean before = slipping;
            if (isOn && !before) {
                slipPlace = place;
            }
            if (!isOn && before) {
                place = slipPlace;
            }
            slipping = isOn;
            return before;
        }

        long skipBack(int beats) {
            place = Math.max(0L, place - beats * BEAT);
            return place;
        }

        int pace() {
            return disc == null ? 0 : disc.tempo * (1000 + pitch);
        }

        void advance() {
            if (!playing || disc == null) {
                return;
            }
            int step = nextStep();
            long last = disc.lastPlace();
            place = loopedBack(place + step);
            if (slipping) {
                slipPlace = Math.min(slipPlace + step, last);
            }
            // The last place is one unit ahead of the end: a deck that comes exactly there plays on.
            if (place > last) {
                place = last;
                halt();
            }
            if (braked >= BRAKE_TICKS) {
                halt();
            }
        }

        private int nextStep() {
            int step = pace();
            int tenth = step / 10;
            if (nudged > 0) {
                step += tenth;
                nudged--;
            } else if (nudged < 0) {
                step -= tenth;
                nudged++;
            }
            if (braked != NONE) {
                step >>= 1 + braked / 10;
                braked++;
            }
            return step;
        }

        private long loopedBack(long newPlace) {
            long length = (loopTo - loopFrom) * BEAT;
            if (loopFrom == NONE || length <= 0 || newPlace < loopTo * BEAT) {
                return newPlace;
            }
            return loopFrom * BEAT + (newPlace - loopFrom * BEAT) % length;
        }

        int levelAt(int cross) {
            return playing ? channel.levelAt(cross) : 0;
        }

        boolean isHeard(int cross) {
            return playing && channel.levelAt(cross) >= HEARD_LEVEL;
        }

        int loudnessAt(int level) {
            return disc == null ? 0 : level * (disc.energy + 1) * channel.bandSum() / 300;
        }

        int thousandthsFrom(Deck other) {
            int apart = (int) (Math.floorMod(place - other.place, BEAT) / THOUSANDTH);
            return apart >= 500 ? apart - 1000 : apart;
        }

        int lockTo(Deck other) {
            if (disc == null || other == null) {
                return pitch;
            }
            pitch = nearestPitch(other.pace());
            long forward = Math.floorMod(other.place - place, BEAT);
            long goal = forward < BEAT - forward ? place + forward : place + forward - BEAT;
            if (goal < 0) {
                goal += BEAT;
            } else if (goal > disc.lastPlace()) {
                goal -= BEAT;
            }
            place = goal;
            return pitch;
        }

        // Pitches are tried from the lowest on, so of two that are as near the lower one stays.
        private int nearestPitch(int goal) {
            int best = -MOST_PITCH;
            int least = paceOff(best, goal);
            for (int tried = best + 1; tried <= MOST_PITCH; tried++) {
                int off = paceOff(tried, goal);
                if (off < least) {
                    least = off;
                    best = tried;
                }
            }
            return best;
        }

        private int paceOff(int triedPitch, int goal) {
            return disc == null ? 0 : Math.abs(disc.tempo * (1000 + triedPitch) - goal);
        }

        int listenTo(Deck other, int rounds) {
            if (disc == null || other == null) {
                return 0;
            }
            int heardBefore = 0;
            for (int i = 0; i < rounds; i++) {
                int heardNow = thousandthsFrom(other);
                long goal = place - heardBefore / 2 * THOUSANDTH;
                place = Math.max(0L, Math.min(goal, disc.lastPlace()));
                heardBefore = heardNow;
            }
            return thousandthsFrom(other);
        }
    }

    /** The mixer's part of one deck: it stays as it is when records come and go. */
    private static final class Channel {
        private static final int EFFECTS = 3;

        final int[] bands;
        final Effect[] effects;
        int effectCount;
        int fader;
        char side;

        Channel() {
            bands = new int[3];
            for (int i = 0; i < bands.length; i++) {
                bands[i] = 100;
            }
            effects = new Effect[EFFECTS];
            for (int i = 0; i < effects.length; i++) {
                effects[i] = new Effect();
            }
            side = 'm';
        }

        int slide(int value) {
            int before = fader;
            fader = value;
            return before;
        }

        int turnBand(int band, int value) {
            if (band < 0 || band >= bands.length) {
                return 0;
            }
            int before = bands[band];
            bands[band] = value;
            return before;
        }

        char changeSide(char newSide) {
            char before = side;
            side = newSide;
            return before;
        }

        int levelAt(int cross) {
            int share = 100;
            if (side == 'l' && cross > 0) {
                share = 100 - cross;
            } else if (side == 'r' && cross < 0) {
                share = 100 + cross;
            }
            return fader * share / 100;
        }

        int bandSum() {
            int sum = 0;
            for (int i = 0; i < bands.length; i++) {
                sum += bands[i];
            }
            return sum;
        }

        boolean hasLowBand() {
            return bands.length > 0 && bands[0] >= 50;
        }

        int plugIn(char kind, int strength) {
            if (effectCount >= 0 && effectCount < effects.length) {
                effects[effectCount].begin(kind, strength);
                effectCount++;
            }
            return effectCount;
        }

        int unplug() {
            int before = effectCount;
            effectCount = 0;
            return before;
        }

        Effect effectAt(int effect) {
            boolean isThere = effect >= 0 && effect < effectCount && effect < effects.length;
            return isThere ? effects[effect] : null;
        }

        int soundOf(int loudness, long place) {
            int tails = 0;
            boolean chopped = false;
            for (int i = 0; i < effectCount && i < effects.length; i++) {
                tails += effects[i].nextTail(loudness);
                chopped = chopped || effects[i].kind == 'c';
            }
            boolean isSecondHalf = place % BEAT >= BEAT / 2;
            return chopped && isSecondHalf ? tails : loudness + tails;
        }
    }

    /** An echo, a reverb or a chop; a chop's tail stays 0. */
    private static final class Effect {
        char kind;
        int strength;
        int tail;

        void begin(char newKind, int newStrength) {
            kind = newKind;
            strength = newStrength;
            tail = 0;
        }

        int nextTail(int loudness) {
            if (kind == 'c') {
                return 0;
            }
            int fresh = loudness * strength / 100;
            if (fresh > tail) {
                tail = fresh;
            } else {
                tail -= kind == 'e' ? (tail + 19) / 20 : (tail + 49) / 50;
            }
            return tail;
        }
    }

    /** The people, by groups. */
    private static final class Floor {
        static final int GROUPS = 6;
        private static final int MOST_PEOPLE = 40;
        private static final int NOTHING_HEARD = 1000;

        final int[] sizes;
        final int[] wear;

        Floor() {
            sizes = new int[GROUPS];
            wear = new int[GROUPS];
            for (int i = 0; i < sizes.length; i++) {
                sizes[i] = 20;
            }
        }

        int sizeOf(int group) {
            return group >= 0 && group < sizes.length ? sizes[group] : 0;
        }

        int wearOf(int group) {
            return group >= 0 && group < wear.length ? wear[group] : 0;
        }

        int everybody() {
            int sum = 0;
            for (int i = 0; i < sizes.length; i++) {
                sum += sizes[i];
            }
            return sum;
        }

        boolean isInBounds() {
            for (int i = 0; i < sizes.length; i++) {
                if (sizes[i] < 0 || sizes[i] > MOST_PEOPLE) {
                    return false;
                }
            }
            return true;
        }

        void dance(Deck[] decks, int cross) {
            boolean isBannedHeard = false;
            for (int i = 0; i < decks.length; i++) {
                Disc disc = decks[i].disc;
                if (disc != null && disc.banned && decks[i].isHeard(cross)) {
                    isBannedHeard = true;
                }
            }
            for (int group = 0; group < GROUPS; group++) {
                feel(group, leastDislike(group, decks, cross), isBannedHeard);
            }
        }

        private static int leastDislike(int group, Deck[] decks, int cross) {
            int least = NOTHING_HEARD;
            for (int i = 0; i < decks.length; i++) {
                Disc disc = decks[i].disc;
                if (disc != null && decks[i].isHeard(cross)) {
                    int keys = Disc.keysApart(disc.key, 4 * group);
                    int energies = Math.abs(disc.energy - (group + 3));
                    least = Math.min(least, keys + energies);
                }
            }
            return least;
        }

        private void feel(int group, int dislike, boolean isBannedHeard) {
            if (group < 0 || group >= sizes.length || group >= wear.length) {
                return;
            }
            int size = sizes[group];
            int tired = wear[group];
            if (dislike == NOTHING_HEARD) {
                size--;
            } else if (dislike <= 2) {
                if (!isBannedHeard && size < MOST_PEOPLE) {
                    size++;
                }
                tired += 2;
            } else if (dislike >= 6) {
                size--;
                tired = Math.max(0, tired - 3);
            } else {
                tired++;
            }
            if (tired >= 100) {
                size -= 2;
                tired -= 40;
            }
            sizes[group] = Math.max(0, size);
            wear[group] = tired;
        }
    }

    /** The limits of loudness, by hours. */
    private static final class Law {
        final int[] limits;
        int breachCount;
        int loudnessOfSecond;

        Law() {
            limits = new int[4];
            for (int i = 0; i < limits.length; i++) {
                limits[i] = 1000;
            }
        }

        int change(int index, int loudness) {
            if (index < 0 || index >= limits.length) {
                return 0;
            }
            int before = limits[index];
            limits[index] = loudness;
            return before;
        }

        void listen(int loudness) {
            loudnessOfSecond += loudness;
        }

        // The last tick of the second belongs to the hour that it ends, so one is taken off.
        void judge(int ticksGone) {
            int hour = Math.floorMod((ticksGone - 1) / TICKS_IN_HOUR, 4);
            int mean = loudnessOfSecond / TICKS_IN_SECOND;
            if (hour < limits.length && mean > limits[hour]) {
                breachCount++;
            }
            loudnessOfSecond = 0;
        }
    }

    /** All that the log can bring about again. */
    private static final class Night {
        private static final int DISCS = 12;
        private static final int DECKS = 4;

        final Disc[] discs;
        final Deck[] decks;
        final Floor floor;
        final Law law;
        int discCount;
        int cross;
        int scene;
        int ticks;
        int silentTicks;
        int voiceClashes;
        int bassClashes;
        int lastLoudness;
        long loudnessSum;

        Night() {
            discs = new Disc[DISCS];
            for (int i = 0; i < discs.length; i++) {
                discs[i] = new Disc(i);
            }
            decks = new Deck[DECKS];
            for (int i = 0; i < decks.length; i++) {
                decks[i] = new Deck();
            }
            floor = new Floor();
            law = new Law();
        }

        int addDisc(int tempo, int beats, int key, int energy, int phrase, int voices, int quiet) {
            if (discCount < 0 || discCount >= discs.length) {
                return NONE;
            }
            discs[discCount].fill(tempo, beats, key, energy, phrase, voices, quiet);
            discCount++;
            return discCount - 1;
        }

        Disc discAt(int record) {
            return record >= 0 && record < discCount && record < discs.length ? discs[record] : null;
        }

        Deck deckAt(int deck) {
            return deck >= 0 && deck < decks.length ? decks[deck] : null;
        }

        boolean isOnDeck(Disc disc) {
            for (int i = 0; i < decks.length; i++) {
                if (decks[i].disc == disc) {
                    return true;
                }
            }
            return false;
        }

        int slideCross(int value) {
            int before = cross;
            cross = value;
            return before;
        }

        int setLights(int flashes, int newScene) {
            scene = newScene;
            return Math.min(flashes, 10);
        }

        int run(int count) {
            int silentBefore = silentTicks;
            for (int i = 0; i < count; i++) {
                advanceDecks();
                ticks++;
                mixDecks();
                countClashes();
                if (ticks % TICKS_IN_SECOND == 0) {
                    floor.dance(decks, cross);
                    law.judge(ticks);
                }
            }
            return silentTicks - silentBefore;
        }

        private void advanceDecks() {
            for (int i = 0; i < decks.length; i++) {
                decks[i].advance();
            }
        }

        private void mixDecks() {
            int sum = 0;
            for (int i = 0; i < decks.length; i++) {
                Deck deck = decks[i];
                int loudness = deck.loudnessAt(deck.levelAt(cross));
                sum += deck.channel.soundOf(loudness, deck.place);
            }
            lastLoudness = Math.min(sum, MOST_LOUDNESS);
            loudnessSum += lastLoudness;
            law.listen(lastLoudness);
            if (lastLoudness == 0) {
                silentTicks++;
            }
        }

        private void countClashes() {
            int voices = 0;
            int basses = 0;
            for (int i = 0; i < decks.length; i++) {
                Deck deck = decks[i];
                Disc disc = deck.disc;
                if (disc != null && deck.isHeard(cross)) {
                    disc.heardTicks++;
                    voices += disc.hasVoiceAt(deck.place) ? 1 : 0;
                    basses += disc.hasBassAt(deck.place) && deck.channel.hasLowBand() ? 1 : 0;
                }
            }
            voiceClashes += voices >= 2 ? 1 : 0;
            bassClashes += basses >= 2 ? 1 : 0;
        }

        Deck loudestDeck() {
            Deck loudest = null;
            int most = NONE;
            for (int i = 0; i < decks.length; i++) {
                int loudness = decks[i].loudnessAt(decks[i].levelAt(cross));
                if (decks[i].isHeard(cross) && loudness > most) {
                    loudest = decks[i];
                    most = loudness;
                }
            }
            return loudest;
        }

        int loseDisc(Deck lost) {
            lost.takeOff();
            if (loudestDeck() != null) {
                return NONE;
            }
            for (int i = 0; i < decks.length; i++) {
                Deck deck = decks[i];
                if (!deck.playing && deck.channel.fader >= HEARD_LEVEL && deck.start()) {
                    return i;
                }
            }
            return NONE;
        }

        long fingerprint() {
            long print = 7;
            for (int i = 0; i < decks.length; i++) {
                print = 31 * print + decks[i].place;
            }
            print = 31 * print + ticks;
            print = 31 * print + silentTicks;
            print = 31 * print + voiceClashes;
            print = 31 * print + bassClashes;
            print = 31 * print + floor.everybody();
            return 31 * print + law.breachCount;
        }

        boolean placesAreSound() {
            for (int i = 0; i < decks.length; i++) {
                Deck deck = decks[i];
                if (deck.disc != null && (deck.place < 0 || deck.place > deck.disc.lastPlace())) {
                    return false;
                }
            }
            return true;
        }
    }

    /** The search for the row of records that is the cheapest. */
    private static final class Search {
        private final Night night;
        private final int[] row;
        private final int[] bestRow;
        private int depth;
        private boolean isFound;
        int leastCost;

        Search(Night night) {
            this.night = night;
            row = new int[MOST_DEPTH];
            bestRow = new int[MOST_DEPTH];
        }

        boolean look(Disc from, int newDepth) {
            depth = newDepth;
            isFound = false;
            lengthen(this, from, 0, wantedDiscs(), 0);
            return isFound;
        }

        // Rows come in the order of their numbers, so only a cheaper one takes the place of another.
        private static void lengthen(Search search, Disc last, int length, int left, int soFar) {
            if (length >= search.depth || length < 0 || length >= search.row.length) {
                search.keepIfCheaper(soFar);
                return;
            }
            for (int i = 0; i < search.night.discCount; i++) {
                Disc disc = search.night.discAt(i);
                if (disc != null && (left >> i & 1) == 1) {
                    search.row[length] = i;
                    lengthen(search, disc, length + 1, left & ~(1 << i), soFar + last.stepCost(disc));
                }
            }
        }

        private int wantedDiscs() {
            int wanted = 0;
            for (int i = 0; i < night.discCount; i++) {
                Disc disc = night.discAt(i);
                if (disc != null && !disc.banned && disc.wholeSeconds() < PLAYED_OUT && !night.isOnDeck(disc)) {
                    wanted |= 1 << i;
                }
            }
            return wanted;
        }

        private void keepIfCheaper(int total) {
            if (isFound && total >= leastCost) {
                return;
            }
            isFound = true;
            leastCost = total;
            for (int i = 0; i < row.length && i < bestRow.length; i++) {
                bestRow[i] = row[i];
            }
        }

        int firstOfRow() {
            return bestRow.length > 0 ? bestRow[0] : NONE;
        }

        int costOfRow(Disc from) {
            int sum = 0;
            Disc last = from;
            for (int i = 0; i < depth && i < bestRow.length; i++) {
                Disc disc = night.discAt(bestRow[i]);
                if (disc != null) {
                    sum += last.stepCost(disc);
                    last = disc;
                }
            }
            return sum;
        }
    }

    /** The text of moves, and why it was refused last. */
    private static final class Moves {
        private static final char DONE = ' ';

        final char[] signs;
        final char[] causeSigns;
        final int[] causePlaces;
        final Deck[] rehearsal;
        int length;
        int causeCount;

        Moves() {
            signs = new char[30];
            causeSigns = new char[2];
            causePlaces = new int[2];
            rehearsal = new Deck[Night.DECKS];
            for (int i = 0; i < rehearsal.length; i++) {
                rehearsal[i] = new Deck();
            }
        }

        int append(char sign) {
            if (length >= 0 && length < signs.length) {
                signs[length] = sign;
                length++;
            }
            return length;
        }

        int empty() {
            int before = length;
            length = 0;
            return before;
        }

        char causeSign(int depth) {
            return depth >= 0 && depth < causeSigns.length ? causeSigns[depth] : DONE;
        }

        int causePlace(int depth) {
            return depth >= 0 && depth < causePlaces.length ? causePlaces[depth] : NONE;
        }

        private void addCause(char sign, int number) {
            if (causeCount >= 0 && causeCount < causeSigns.length && causeCount < causePlaces.length) {
                causeSigns[causeCount] = sign;
                causePlaces[causeCount] = number;
                causeCount++;
            }
        }

        boolean isReadable() {
            int fault = firstFault();
            if (fault == NONE) {
                return true;
            }
            causeCount = 0;
            addCause('t', fault);
            return false;
        }

        private int firstFault() {
            boolean isDeckTold = false;
            for (int i = 0; i < length && i < signs.length; i++) {
                char sign = signs[i];
                boolean isDeck = isDeckLetter(sign);
                boolean isDigitDue = isDeckTold && mostAfter(sign) != NONE;
                if (!isDeck && !isDigitDue && !(isDeckTold && isLoneMove(sign))) {
                    return i;
                }
                isDeckTold = true;
                if (isDigitDue) {
                    i++;
                    if (i >= length || i >= signs.length || signs[i] < '0' || signs[i] > '0' + mostAfter(sign)) {
                        return i;
                    }
                }
            }
            return length == 0 ? 0 : NONE;
        }

        private static boolean isDeckLetter(char sign) {
            return sign >= 'A' && sign <= 'D';
        }

        private static boolean isLoneMove(char sign) {
            return sign == 'p' || sign == 's' || sign == 'b' || sign == 'x' || sign == 'k';
        }

        private static int mostAfter(char sign) {
            switch (sign) {
                case 'c':
                case 'm':
                    return 3;
                case 'l':
                    return 6;
                case '+':
                case '-':
                case 'f':
                    return 9;
                default:
                    return NONE;
            }
        }

        // Moves are tried on decks that nobody hears, so that a refusal leaves nothing to undo.
        boolean canBeDone(Deck[] decks) {
            for (int i = 0; i < rehearsal.length && i < decks.length; i++) {
                rehearsal[i].copyFrom(decks[i]);
            }
            return doAll(rehearsal, signs, 0, length) != NONE;
        }

        int doAll(Deck[] decks, char[] text, int from, int to) {
            int done = 0;
            int deck = NONE;
            for (int i = from; i >= 0 && i < to && i < text.length; i++) {
                char sign = text[i];
                if (isDeckLetter(sign)) {
                    deck = sign - 'A';
                } else if (deck >= 0 && deck < decks.length) {
                    int start = i;
                    int digit = 0;
                    if (mostAfter(sign) != NONE && i + 1 < text.length) {
                        i++;
                        digit = text[i] - '0';
                    }
                    char refusal = doOne(decks[deck], sign, digit);
                    if (refusal != DONE) {
                        causeCount = 0;
                        addCause('m', start);
                        addCause(refusal, deck);
                        return NONE;
                    }
                    done++;
                }
            }
            return done;
        }

        private static char doOne(Deck deck, char sign, int digit) {
            if (sign == 's') {
                deck.halt();
                return DONE;
            }
            if (sign == 'f') {
                deck.channel.slide(Math.min(100, 11 * digit));
                return DONE;
            }
            if (sign == 'x') {
                return deck.leaveLoop() ? DONE : 'i';
            }
            return deck.disc == null ? 'e' : doOnDisc(deck, sign, digit);
        }

        private static char doOnDisc(Deck deck, char sign, int digit) {
            switch (sign) {
                case 'p': deck.start(); return DONE;
                case 'b': deck.slowDown(); return DONE;
                case 'm': deck.mark(digit); return DONE;
                case '+': deck.push(10 * digit); return DONE;
                case '-': deck.push(-10 * digit); return DONE;
                case 'k': deck.turnSlip(!deck.slipping); return DONE;
                case 'c': return deck.jumpToCue(digit) ? DONE : 'c';
                default: break;
            }
            if (!deck.hasRoomFor(digit)) {
                return 'l';
            }
            deck.turnRound(digit);
            return DONE;
        }
    }

    /** The acts of the night, each a row of its kind and its numbers. */
    private static final class Log {
        static final int ADD = 1;
        static final int CORRECT = 2;
        static final int BAN = 3;
        static final int REQUEST = 4;
        static final int LOAD = 5;
        static final int PLAY = 6;
        static final int STOP = 7;
        static final int PITCH = 8;
        static final int NUDGE = 9;
        static final int BRAKE = 10;
        static final int JUMP = 11;
        static final int CUE = 12;
        static final int LOOP = 13;
        static final int OUT = 14;
        static final int SLIP = 15;
        static final int FADER = 16;
        static final int BAND = 17;
        static final int SIDE = 18;
        static final int CROSS = 19;
        static final int EFFECT = 20;
        static final int DROP = 21;
        static final int GO = 22;
        static final int SYNC = 23;
        static final int EAR = 24;
        static final int LIMIT = 25;
        static final int STROBE = 26;
        static final int PERFORM = 27;
        static final int SKIP = 28;
        static final int LOSE = 29;
        private static final int WIDTH = 8;

        final int[] numbers;
        final char[] letters;
        int acts;
        int letterCount;
        private int filled;

        Log() {
            numbers = new int[MOST_CALLS * WIDTH];
            letters = new char[MOST_CALLS];
        }

        // Acts behind the last call that is promised find no room and are left out.
        void open(int kind) {
            filled = acts * WIDTH;
            if (acts < MOST_CALLS) {
                acts++;
            }
            put(kind);
        }

        void put(int number) {
            if (filled >= 0 && filled < numbers.length) {
                numbers[filled] = number;
                filled++;
            }
        }

        void note(int kind, int a, int b, int c) {
            open(kind);
            put(a);
            put(b);
            put(c);
        }

        // Each letter was typed by a call of its own, so all that are promised find room.
        int noteText(char[] signs, int length) {
            int from = letterCount;
            for (int i = 0; i < length && i < signs.length; i++) {
                if (letterCount >= 0 && letterCount < letters.length) {
                    letters[letterCount] = signs[i];
                    letterCount++;
                }
            }
            return from;
        }

        int numberAt(int act, int index) {
            int at = act * WIDTH + index;
            return at >= 0 && at < numbers.length ? numbers[at] : 0;
        }
    }
}
