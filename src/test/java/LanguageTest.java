import java.io.IOException;
import java.lang.reflect.Constructor;
import java.lang.reflect.Field;
import java.lang.reflect.Method;
import java.lang.reflect.Modifier;
import java.nio.file.Files;
import java.nio.file.Path;
import java.util.ArrayList;
import java.util.List;
import java.util.TreeSet;
import java.util.regex.Matcher;
import java.util.regex.Pattern;

/** What LANGUAGE.md asks of the file, as far as a look at its words and its classes can tell. */
public final class LanguageTest {
    private static final String FACE = "addEffect addRecord apart ban between brake breaches cause causeNumber clashes "
            + "correct cost dropEffects ear go heard isSound jump level light load logged loop loseStick "
            + "meanLoudness next nudge on out people perform place play plays print printAgain request seconds "
            + "setBand setCross setCue setFader setLimit setPitch setSide silence silentShare skip slip stop strobe "
            + "sync tail tempo ticks tired type wipe";
    private static final String[] FORBIDDEN = {"\\btry\\b", "\\bcatch\\b", "\\bfinally\\b", "->", "::", "\\bassert\\b",
        "\\bsynchronized\\b", "\\bstatic\\s*\\{", "\\bprotected\\b", "\\bSystem\\b", "\\bjava\\.(?!util\\.NoSuch)",
        "Exact\\b", "\\bMAX_VALUE\\b", "\\bMIN_VALUE\\b", "\\bObject\\b", "@", "\\bvar\\b", "\\bequals\\b",
        "\\bhashCode\\b", "\\btoString\\b", "\\bThread\\b", "\\bRandom\\b", "\\bString\\b", "while\\s*\\(true"};

    private LanguageTest() {
    }

    public static void main(String[] args) throws IOException {
        Checks c = new Checks("LanguageTest");
        words(c, Files.readString(Path.of("src/main/java/MixBooth.java")));
        face(c);
        classes(c);
        c.end();
    }

    private static void words(Checks c, String source) {
        String code = source.replaceAll("(?s)/\\*.*?\\*/", "").replaceAll("//[^\n]*", "")
                .replaceAll("\"[^\"\n]*\"", "\"\"");
        for (String word : FORBIDDEN) {
            Matcher matcher = Pattern.compile(word).matcher(code);
            c.is("not in the language: " + word, false, matcher::find);
        }
        c.is("signs are plain", true, () -> source.chars().allMatch(sign -> sign < 127));
        c.is("one import", 2, () -> code.split("\\bimport\\b").length);
        Matcher thrown = Pattern.compile("throw (.*)").matcher(code);
        while (thrown.find()) {
            String what = thrown.group(1);
            c.is("thrown: " + what, true, () -> what.matches("new [A-Za-z]+Exception\\(\"\"\\);"));
        }
    }

    private static void face(Checks c) {
        TreeSet<String> open = new TreeSet<>();
        TreeSet<String> hidden = new TreeSet<>();
        for (Method method : MixBooth.class.getDeclaredMethods()) {
            (Modifier.isPublic(method.getModifiers()) ? open : hidden).add(method.getName());
            c.is("open or private: " + method.getName(), true,
                    () -> (method.getModifiers() & (Modifier.PUBLIC | Modifier.PRIVATE)) != 0);
        }
        c.is("the public methods", FACE, () -> String.join(" ", open));
        hidden.retainAll(open);
        c.is("private ones with public names", "[]", hidden::toString);
        c.is("one constructor", 1, () -> MixBooth.class.getDeclaredConstructors().length);
        c.is("public and final", Modifier.PUBLIC | Modifier.FINAL, MixBooth.class::getModifiers);
        for (Field field : MixBooth.class.getDeclaredFields()) {
            c.is("private: " + field.getName(), true, () -> Modifier.isPrivate(field.getModifiers()));
        }
    }

    private static void classes(Checks c) {
        List<Class<?>> all = new ArrayList<>(List.of(MixBooth.class.getDeclaredClasses()));
        c.is("some twelve classes at most", true, () -> all.size() < 12);
        all.add(MixBooth.class);
        for (Class<?> one : all) {
            c.is("static or the public one: " + one, true,
                    () -> one == MixBooth.class || Modifier.isStatic(one.getModifiers()));
            int fields = 0;
            for (Field field : one.getDeclaredFields()) {
                boolean isStatic = Modifier.isStatic(field.getModifiers());
                fields += isStatic ? 0 : 1;
                c.is("a constant: " + field, true,
                        () -> !isStatic || Modifier.isFinal(field.getModifiers()) && field.getType().isPrimitive());
            }
            int count = fields;
            c.is("some twenty fields: " + one, true, () -> count <= 20);
            for (Method method : one.getDeclaredMethods()) {
                c.is("seven parameters: " + method, true, () -> method.getParameterCount() <= 7);
            }
            for (Constructor<?> constructor : one.getDeclaredConstructors()) {
                c.is("seven parameters: " + constructor, true, () -> constructor.getParameterCount() <= 7);
            }
        }
    }
}
