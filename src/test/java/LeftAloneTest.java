import java.util.ArrayList;
import java.util.Arrays;
import java.util.List;

/** What a call changes, and that it leaves all else as it is: each act against each thing that can be asked. */
public final class LeftAloneTest {
    private interface Call {
        Object make(MixBooth x);
    }

    private static final int DECKS = 3;
    private static final int RECORDS = 7;

    private final Checks checks;
    private final List<String> names = new ArrayList<>();
    private final List<Call> looks = new ArrayList<>();
    private final List<String> untouched = new ArrayList<>();

    private LeftAloneTest(Checks checks) {
        this.checks = checks;
        for (int deck = 0; deck < DECKS; deck++) {
            lookAtDeck(deck);
            lookAtMixer(deck);
        }
        for (int record = 0; record < RECORDS; record++) {
            lookAtRecord(record);
        }
        lookAtNight();
        lookAtTexts();
        for (Call look : looks) {
            untouched.add(answer(base(), look));
        }
    }

    public static void main(String[] args) {
        Checks c = new Checks("LeftAloneTest");
        LeftAloneTest test = new LeftAloneTest(c);
        test.records();
        test.loads();
        test.plays();
        test.jumps();
        test.loops();
        test.mixer();
        test.night();
        test.sticks();
        test.moves();
        test.questions();
        c.end();
    }

    private static String answer(MixBooth x, Call call) {
        return Checks.answer(() -> call.make(x));
    }

    private void look(String name, Call call) {
        names.add(name);
        looks.add(call);
    }

    /** Decks 0 and 1 play, brake, are nudged, looped and in slip; deck 2 stands, with all of that but a brake. */
    private static MixBooth base() {
        MixBooth x = new MixBooth();
        for (int i = 0; i < RECORDS - 1; i++) {
            x.addRecord(1200 + 10 * i, 400, 3 * i, 3 + i, 8, 65535, 0);
        }
        int[] requested = {0, 2, 3};
        for (int record : requested) {
            x.request(record);
        }
        x.ban(1, true);
        x.ban(2, true);
        x.ban(4, true);
        for (int deck = 0; deck < DECKS; deck++) {
            x.load(deck, deck);
        }
        setMixer(x);
        hearRecordOnce(x, 5);
        for (int deck = 0; deck < DECKS; deck++) {
            for (int cue = 0; cue < 3; cue++) {
                x.jump(deck, 10 * (deck + 1) + cue);
                x.setCue(deck, cue);
            }
            x.play(deck);
        }
        x.go(230);
        x.stop(2);
        for (int deck = 0; deck < DECKS; deck++) {
            x.jump(deck, 50 + 20 * deck);
            x.loop(deck, 3);
            x.slip(deck, true);
            x.jump(deck, 52 + 20 * deck);
            x.brake(deck);
            x.nudge(deck, 150 - 100 * deck);
        }
        x.setFader(2, 20);
        x.go(15);
        Checks.answer(() -> Booths.perform(x, "AsBc3"));
        x.wipe();
        x.type('A');
        x.type('f');
        x.type('1');
        return x;
    }

    private static void hearRecordOnce(MixBooth x, int record) {
        x.load(3, record);
        x.setFader(3, 100);
        x.play(3);
        x.go(100);
        x.loseStick(3);
    }

    private static void setMixer(MixBooth x) {
        x.setCross(-10);
        x.strobe(9, 3);
        for (int deck = 0; deck < DECKS; deck++) {
            x.setFader(deck, 80 - 10 * deck);
            x.setSide(deck, "lrr".charAt(deck));
            x.setPitch(deck, 11 - 9 * deck);
            x.setLimit(deck, 100 + deck);
            for (int band = 0; band < 3; band++) {
                x.setBand(deck, band, 90 - 10 * deck - band);
            }
            x.addEffect(deck, 'e', 100);
            x.addEffect(deck, 'r', 90);
        }
        x.addEffect(0, 'c', 5);
    }

    private void lookAtDeck(int deck) {
        look(deck + " place", x -> x.place(deck));
        look(deck + " tempo", x -> x.tempo(deck));
        look(deck + " pitch", x -> x.setPitch(deck, 0));
        look(deck + " plays", x -> x.plays(deck));
        look(deck + " on", x -> x.on(deck));
        look(deck + " nudge", x -> x.nudge(deck, 0));
        look(deck + " brake", x -> {
            x.go(35);
            return x.plays(deck);
        });
        look(deck + " loop", x -> {
            x.play(deck);
            x.nudge(deck, 0);
            x.setPitch(deck, 0);
            x.jump(deck, 398);
            x.go(1);
            return x.place(deck);
        });
        look(deck + " slip", x -> x.slip(deck, false) + " " + x.place(deck));
        for (int cue = 0; cue < 4; cue++) {
            String move = (char) ('A' + deck) + "c" + cue;
            look(deck + " cue " + cue, x -> {
                boolean isDone = Checks.answer(() -> Booths.perform(x, move)).equals("1");
                return isDone ? "at " + x.place(deck) : "none, " + x.cause(1);
            });
        }
    }

    private void lookAtMixer(int deck) {
        look(deck + " level", x -> x.level(deck));
        look(deck + " fader", x -> x.setFader(deck, 0));
        look(deck + " side", x -> x.setSide(deck, 'm'));
        look(deck + " effects", x -> x.dropEffects(deck));
        for (int i = 0; i < 3; i++) {
            int number = i;
            look(deck + " band " + i, x -> x.setBand(deck, number, 0));
            look(deck + " tail " + i, x -> x.tail(deck, number));
        }
    }

    private void lookAtRecord(int record) {
        look("tempo of record " + record, x -> x.correct(record, 600));
        look("ban of record " + record, x -> x.ban(record, false));
        look("request of record " + record, x -> x.request(record));
        look("seconds of record " + record, x -> x.seconds(record));
    }

    private void lookAtNight() {
        look("crossfader", x -> x.setCross(0));
        look("ticks", MixBooth::ticks);
        look("heard", MixBooth::heard);
        look("silence", MixBooth::silence);
        look("voices", x -> x.clashes('v'));
        look("bass", x -> x.clashes('b'));
        look("breaches", MixBooth::breaches);
        look("share", MixBooth::silentShare);
        look("mean", MixBooth::meanLoudness);
        for (int i = 0; i < 6; i++) {
            int group = i;
            look("people " + i, x -> x.people(group));
            look("tired " + i, x -> x.tired(group));
        }
        for (int i = 0; i < 4; i++) {
            int index = i;
            look("limit " + i, x -> x.setLimit(index, 0));
        }
        look("scene", x -> {
            x.setFader(0, 0);
            x.setFader(1, 0);
            x.setFader(2, 100);
            x.play(2);
            x.jump(2, 0);
            return x.light();
        });
    }

    private void lookAtTexts() {
        look("text", x -> Checks.answer(x::perform) + " " + x.setFader(0, 0) + " " + x.wipe());
        look("causes", x -> x.cause(0) + " " + x.causeNumber(0) + " " + x.cause(1) + " " + x.causeNumber(1));
        look("log", MixBooth::logged);
        look("sound", MixBooth::isSound);
    }

    /** Each thing that is told to change must change, and nothing else may. */
    private void changes(String what, Call call, String... changed) {
        List<String> due = Arrays.asList(changed);
        for (String name : due) {
            checks.is(what + ": there is " + name, true, () -> names.contains(name));
        }
        for (int i = 0; i < looks.size(); i++) {
            MixBooth x = base();
            answer(x, call);
            String name = names.get(i);
            String before = untouched.get(i);
            String now = answer(x, looks.get(i));
            checks.is(what + " changes " + name, due.contains(name), () -> !now.equals(before));
        }
    }

    private void records() {
        changes("2: addRecord", x -> x.addRecord(700, 99, 0, 0, 8, 0, 0), "log", "tempo of record 6",
                "ban of record 6", "request of record 6", "seconds of record 6");
        changes("3: correct", x -> x.correct(3, 700), "log", "tempo of record 3");
        changes("3: correct of a banned record", x -> x.correct(4, 700), "log", "tempo of record 4");
        changes("3: correct of one that was heard", x -> x.correct(5, 700), "log", "tempo of record 5");
        changes("5: ban", x -> x.ban(3, true), "log", "ban of record 3");
        changes("5: a ban that is lifted", x -> x.ban(1, false), "log", "ban of record 1");
        changes("6: request", x -> x.request(4), "log", "request of record 4");
        changes("6: a request again", x -> x.request(0), "log");
    }

    private void loads() {
        changes("7: load of the same record", x -> x.load(2, 2), "log", "2 place", "2 nudge", "2 loop", "2 slip",
                "2 cue 0", "2 cue 1", "2 cue 2");
        changes("7: load of another record", x -> x.load(2, 5), "log", "2 place", "2 tempo", "2 on", "2 nudge",
                "2 loop", "2 slip", "2 cue 0", "2 cue 1", "2 cue 2", "tempo of record 2", "tempo of record 5");
        changes("7: load onto an empty deck", x -> x.load(3, 3), "log", "tempo of record 3");
    }

    private void plays() {
        changes("8: play on a deck that brakes", x -> x.play(0), "log", "0 brake");
        changes("8: play on a deck that stands", x -> x.play(2), "log", "2 plays", "2 level", "2 brake");
        changes("9: stop", x -> x.stop(0), "log", "0 plays", "0 level");
        changes("9: stop of a deck that stands", x -> x.stop(2), "log");
        changes("10: setPitch", x -> x.setPitch(0, 99), "log", "0 tempo", "0 pitch");
        changes("11: nudge", x -> x.nudge(1, 199), "log", "1 nudge");
        changes("12: brake", x -> x.brake(0), "log", "0 brake");
        changes("12: brake of a deck that stands", x -> x.brake(2), "log");
    }

    private void jumps() {
        changes("13: jump", x -> x.jump(0, 99), "log", "0 place");
        changes("13: jump of a deck that stands", x -> x.jump(2, 0), "log", "2 place");
        changes("14: setCue", x -> x.setCue(0, 3), "log", "0 cue 3");
        changes("14: setCue again", x -> x.setCue(1, 0), "log", "1 cue 0");
        changes("36: sync", x -> x.sync(0, 2), "log", "0 place", "0 tempo", "0 pitch");
        changes("37: ear", x -> x.ear(0, 2, 3), "log", "0 place");
        changes("52: skip", x -> x.skip(0, 1), "log", "0 place");
        changes("52: skip to where no loop is", x -> x.skip(1, 32), "log", "1 place");
        changes("52: skip to the beginning", x -> {
            x.skip(0, 32);
            return x.skip(0, 32);
        }, "log", "0 place");
    }

    private void loops() {
        changes("15: loop", x -> x.loop(0, 1), "log", "0 loop");
        changes("15: loop of a deck that stands", x -> x.loop(2, 0), "log", "2 loop");
        changes("16: out", x -> x.out(1), "log", "1 loop");
        changes("17: slip that is on", x -> x.slip(0, true), "log");
        changes("17: slip that ends", x -> x.slip(0, false), "log", "0 place", "0 slip");
    }

    private void mixer() {
        changes("22: setFader", x -> x.setFader(0, 33), "log", "0 fader", "0 level");
        changes("22: setFader of another deck", x -> x.setFader(1, 33), "log", "1 fader", "1 level");
        changes("23: setBand", x -> x.setBand(0, 1, 7), "log", "0 band 1");
        changes("24: setSide", x -> x.setSide(0, 'r'), "log", "0 side", "0 level");
        changes("25: setCross", x -> x.setCross(40), "log", "crossfader", "0 level", "1 level");
        changes("27: addEffect", x -> x.addEffect(1, 'e', 9), "log", "1 effects", "1 tail 2");
        changes("28: dropEffects", x -> x.dropEffects(0), "log", "0 effects", "0 tail 0", "0 tail 1", "0 tail 2");
        changes("28: dropEffects of another deck", x -> x.dropEffects(2), "log", "2 effects", "2 tail 0", "2 tail 1");
    }

    private void night() {
        changes("41: setLimit", x -> x.setLimit(2, 7), "log", "limit 2");
        changes("43: strobe", x -> x.strobe(5, 6), "log", "scene");
        changes("43: strobe that is cut by law", x -> x.strobe(30, 7), "log", "scene");
        changes("43: strobe in the same scene", x -> x.strobe(1, 3), "log");
    }

    private void sticks() {
        changes("53: loseStick", x -> x.loseStick(1), "log", "1 place", "1 tempo", "1 plays", "1 on", "1 nudge",
                "1 loop", "1 slip", "1 cue 0", "1 cue 1", "1 cue 2", "1 cue 3", "1 level", "tempo of record 1");
        changes("53: loseStick of a deck that stands", x -> x.loseStick(2), "log", "2 place", "2 tempo", "2 on",
                "2 nudge", "2 loop", "2 slip", "2 cue 0", "2 cue 1", "2 cue 2", "2 cue 3", "tempo of record 2",
                "scene");
    }

    /** A text that is done leaves no text behind; what its move changes is what the call changes. */
    private void moves() {
        changes("49: perform", MixBooth::perform, "log", "text", "0 fader", "0 level");
        changes("49: p", x -> Booths.perform(x, "Ap"), "log", "text", "0 brake");
        changes("49: s", x -> Booths.perform(x, "As"), "log", "text", "0 plays", "0 level");
        changes("49: b", x -> Booths.perform(x, "Ab"), "log", "text", "0 brake");
        changes("49: c", x -> Booths.perform(x, "Ac1"), "log", "text", "0 place");
        changes("49: m", x -> Booths.perform(x, "Am3"), "log", "text", "0 cue 3");
        changes("49: l", x -> Booths.perform(x, "Al0"), "log", "text", "0 loop");
        changes("49: x", x -> Booths.perform(x, "Ax"), "log", "text", "0 loop");
        changes("49: +", x -> Booths.perform(x, "B+7"), "log", "text", "1 nudge");
        changes("49: -", x -> Booths.perform(x, "B-7"), "log", "text", "1 nudge");
        changes("49: f", x -> Booths.perform(x, "Bf3"), "log", "text", "1 fader", "1 level");
        changes("49: k", x -> Booths.perform(x, "Ak"), "log", "text", "0 place", "0 slip");
        changes("49: a deck without moves", x -> Booths.perform(x, "D"), "log", "text");
        changes("49: a text that cannot be read", x -> Booths.perform(x, "As?"), "text", "causes");
        changes("49: a move that cannot be done", x -> Booths.perform(x, "AsDp"), "text", "causes");
        changes("47: type", x -> x.type('s'), "text");
        changes("48: wipe", MixBooth::wipe, "text");
    }

    private void questions() {
        Call[] calls = {x -> x.apart(0, 1), x -> x.place(0), x -> x.tempo(0), x -> x.plays(0), x -> x.on(0),
            x -> x.level(0), x -> x.tail(0, 0), MixBooth::ticks, MixBooth::heard, MixBooth::silence,
            x -> x.clashes('v'), x -> x.between(0, 1), x -> x.people(0), x -> x.tired(0), x -> x.seconds(0),
            MixBooth::breaches, MixBooth::light, x -> x.next(0, 2), x -> x.cost(0, 2), x -> x.cause(0),
            x -> x.causeNumber(0), MixBooth::logged, MixBooth::print, MixBooth::printAgain, MixBooth::silentShare,
            MixBooth::meanLoudness, MixBooth::isSound};
        for (int i = 0; i < calls.length; i++) {
            changes("54: question " + i, calls[i]);
        }
    }
}
