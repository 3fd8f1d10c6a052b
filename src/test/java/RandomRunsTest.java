import java.lang.reflect.InvocationTargetException;
import java.lang.reflect.Method;
import java.util.Arrays;
import java.util.HashMap;
import java.util.Map;
import java.util.Random;

/** Random runs of up to 512 calls on the class and on the model: each answer must be alike. */
public final class RandomRunsTest {
    private static final int MOST_CALLS = 512;
    private static final String[] CALLS = {
        "addRecord", "correct", "apart", "ban", "request", "load", "play", "stop", "setPitch", "nudge", "brake",
        "jump", "setCue", "loop", "out", "slip", "place", "tempo", "plays", "on", "setFader", "setBand", "setSide",
        "setCross", "level", "addEffect", "dropEffects", "tail", "go", "ticks", "heard", "silence", "clashes",
        "between", "sync", "ear", "people", "tired", "seconds", "setLimit", "breaches", "strobe", "light", "next",
        "cost", "type", "wipe", "perform", "cause", "causeNumber", "skip", "loseStick", "logged", "print",
        "printAgain", "silentShare", "meanLoudness", "isSound"};
    private static final String[] OFTEN = {
        "load", "play", "go", "go", "go", "setFader", "jump", "loop", "slip", "ear", "sync", "between", "place",
        "heard", "skip", "text", "text", "print", "addEffect", "tail", "next", "cost", "nudge", "brake", "setPitch"};
    private static final int[] EDGES = {Integer.MIN_VALUE, -1000, -201, -161, -101, -1, 0, 1, 4, 7, 12, 31, 33, 101,
        161, 201, 599, 1000, 2001, 65536, Integer.MAX_VALUE};
    private static final Map<String, Method> REAL = new HashMap<>();
    private static final Map<String, Method> MODEL = new HashMap<>();
    private static int wrong;
    private static int calls;

    private final Random random;
    private final MixBooth real = new MixBooth();
    private final Model model = new Model();
    private final StringBuilder story = new StringBuilder();
    private final boolean isWild;
    private int made;
    private boolean isBroken;

    private RandomRunsTest(long seed) {
        random = new Random(seed);
        isWild = seed % 4 == 0;
    }

    public static void main(String[] args) {
        for (Method method : MixBooth.class.getMethods()) {
            REAL.put(method.getName(), method);
        }
        for (Method method : Model.class.getMethods()) {
            MODEL.put(method.getName(), method);
        }
        int runs = args.length > 0 ? Integer.parseInt(args[0]) : 400;
        long first = args.length > 1 ? Long.parseLong(args[1]) : 1;
        for (long seed = first; seed < first + runs && wrong < 5; seed++) {
            new RandomRunsTest(seed).run(seed);
        }
        System.out.println("RandomRunsTest: " + calls + " calls, " + wrong + " runs wrong");
        if (wrong > 0 || calls == 0) {
            System.exit(1);
        }
    }

    private void run(long seed) {
        if (!isWild) {
            prepare();
        }
        while (made < MOST_CALLS - 40 && !isBroken) {
            String name = random.nextInt(3) > 0 ? pick(OFTEN) : pick(CALLS);
            if (name.equals("text")) {
                typeText();
            } else {
                call(name, argumentsOf(name));
            }
        }
        if (!isBroken) {
            call("print");
            call("isSound");
        }
        if (isBroken) {
            wrong++;
            System.out.println("seed " + seed + ":\n" + story);
        }
    }

    private void prepare() {
        int records = 2 + random.nextInt(10);
        for (int i = 0; i < records; i++) {
            call("addRecord", argumentsOf("addRecord"));
        }
        for (int deck = 0; deck < 4; deck++) {
            if (random.nextInt(4) > 0) {
                call("load", deck, random.nextInt(records));
                call("setFader", deck, 20 + random.nextInt(81));
                call("play", deck);
            }
        }
    }

    private void typeText() {
        String[] parts = {"A", "B", "C", "D", "p", "s", "b", "x", "k", "c", "m", "l", "+", "-", "f"};
        StringBuilder text = new StringBuilder();
        if (random.nextInt(10) > 0) {
            text.append((char) ('A' + random.nextInt(4)));
        }
        for (int i = random.nextInt(6); i > 0; i--) {
            String part = pick(parts);
            text.append(part);
            if ("cml+-f".contains(part) && random.nextInt(12) > 0) {
                int most = part.equals("l") && random.nextInt(8) > 0 ? 7 : "cm".contains(part) ? 4 : 10;
                text.append((char) ('0' + random.nextInt(most)));
            }
        }
        if (random.nextInt(12) == 0) {
            text.append((char) random.nextInt(300));
        }
        if (random.nextInt(4) > 0) {
            call("wipe");
        }
        for (int i = 0; i < text.length(); i++) {
            call("type", text.charAt(i));
        }
        call("perform");
        call("cause", 0);
        call("causeNumber", 0);
        call("cause", 1);
        call("causeNumber", 1);
    }

    private String pick(String[] names) {
        return names[random.nextInt(names.length)];
    }

    private int in(int least, int most) {
        if (random.nextInt(isWild ? 15 : 60) == 0) {
            return random.nextBoolean() ? EDGES[random.nextInt(EDGES.length)] : random.nextBoolean() ? least - 1
                    : most + 1;
        }
        int chance = random.nextInt(12);
        return chance == 0 ? least : chance == 1 ? most : least + random.nextInt(most - least + 1);
    }

    private char sign(String signs) {
        return random.nextInt(30) == 0 ? (char) random.nextInt(200) : signs.charAt(random.nextInt(signs.length()));
    }

    private int record() {
        return in(0, Math.max(0, model.recs.size() - 1));
    }

    private Object[] argumentsOf(String name) {
        int deck = in(0, 3);
        switch (name) {
            case "addRecord": return new Object[] {in(600, 2000), random.nextInt(3) == 0 ? in(16, 999) : in(16, 60),
                in(0, 23), in(0, 9), random.nextInt(40) == 0 ? in(0, 33) : 8 << random.nextInt(3), in(0, 65535),
                in(0, 65535)};
            case "correct": return new Object[] {record(), in(600, 2000)};
            case "apart": return new Object[] {record(), record()};
            case "ban": return new Object[] {record(), random.nextInt(3) == 0};
            case "request":
            case "seconds": return new Object[] {record()};
            case "load": return new Object[] {deck, record()};
            case "setPitch": return new Object[] {deck, in(-160, 160)};
            case "nudge": return new Object[] {deck, in(-200, 200)};
            case "jump": return new Object[] {deck, random.nextInt(3) == 0 ? in(0, 999) : in(0, 30)};
            case "setCue": return new Object[] {deck, in(0, 3)};
            case "loop": return new Object[] {deck, in(0, 6)};
            case "slip": return new Object[] {deck, random.nextBoolean()};
            case "setFader": return new Object[] {deck, in(0, 100)};
            case "setBand": return new Object[] {deck, in(0, 2), in(0, 100)};
            case "setSide": return new Object[] {deck, sign("lmr")};
            case "setCross": return new Object[] {in(-100, 100)};
            case "addEffect": return new Object[] {deck, sign("erc"), in(0, 100)};
            case "tail": return new Object[] {deck, in(0, 2)};
            case "go": return new Object[] {random.nextInt(6) == 0 ? in(1, 2000) : in(1, 150)};
            case "clashes": return new Object[] {sign("vb")};
            case "between":
            case "sync": return new Object[] {deck, in(0, 3)};
            case "ear": return new Object[] {deck, in(0, 3), in(1, 10)};
            case "people": return new Object[] {in(-1, 5)};
            case "tired": return new Object[] {in(0, 5)};
            case "setLimit": return new Object[] {in(0, 3), in(0, 2000)};
            case "strobe": return new Object[] {in(1, 30), in(0, 7)};
            case "next":
            case "cost": return new Object[] {deck, in(1, random.nextInt(4) == 0 ? 4 : 3)};
            case "type": return new Object[] {sign("ABCDpsbckmlxf+-0123")};
            case "cause":
            case "causeNumber": return new Object[] {in(0, 1)};
            case "skip": return new Object[] {deck, in(1, 32)};
            default: return REAL.get(name).getParameterCount() == 0 ? new Object[0] : new Object[] {deck};
        }
    }

    private void call(String name, Object... arguments) {
        if (isBroken) {
            return;
        }
        made++;
        calls++;
        String got = answer(REAL.get(name), real, arguments);
        String want = answer(MODEL.get(name), model, arguments);
        story.append(name).append(Arrays.toString(arguments)).append(" -> ").append(got).append('\n');
        if (!got.equals(want)) {
            story.append("due is ").append(want).append('\n');
            isBroken = true;
        }
    }

    private static String answer(Method method, Object on, Object[] arguments) {
        try {
            return String.valueOf(method.invoke(on, arguments));
        } catch (InvocationTargetException e) {
            return "throws " + e.getCause().getClass().getName();
        } catch (IllegalAccessException e) {
            return "cannot be called";
        }
    }
}
