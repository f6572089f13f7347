import java.lang.reflect.Constructor;
import java.lang.reflect.Field;
import java.lang.reflect.Method;
import java.lang.reflect.Modifier;
import java.nio.file.Files;
import java.nio.file.Path;
import java.util.ArrayList;
import java.util.Arrays;
import java.util.List;
import java.util.TreeSet;
import java.util.regex.Matcher;
import java.util.regex.Pattern;

/** The face of the class, and those rules of LANGUAGE.md that can be read off the text. */
public final class LanguageTest {
    private static final Due DUE = new Due("LanguageTest");
    private static final String[] FACE = {
        "int word(int,int)", "int hand(int)", "int pupil(int,int)", "int became(int,int)",
        "int letter(int,int,int)", "int write(int,int)", "int weight(int,int)", "int uses(int,int,int)",
        "int means(int,int,int)", "int odds(int,int)", "int likeliest(int)", "int says(int)",
        "int year(int,int)", "int asIn(int,int,int)", "int about(int,int,int)", "int chance(int,int,int)",
        "int like(int,int,int)", "int left(int,int)", "int slip(int)", "int said(int,int,int)",
        "int order(int)", "int sure(int,int)", "int kin(int,int)", "int dealt(int,int)",
        "int bounds(int,int,int,int)", "int question(int,int,int,int,int)", "int tells(int)",
        "int form(int)", "int sign(int)", "int limb(int,int)", "int count(int)", "long digest()",
    };
    /** Rules 2, 4, 6, 13: nothing of this stands in the text outside comments. */
    private static final String[] OUTLAWED = {
        "\\bthrow\\b", "\\bthrows\\b", "\\btry\\b", "\\bcatch\\b", "\\bsynchronized\\b", "\\bassert\\b", "->", "::",
        "\\bHashMap\\b", "\\bMap\\b", "\\bSystem\\.(?!arraycopy)", "Exact\\b", "\\bRandom\\b", "\\bThread\\b",
        "\\bequals\\b", "\\bhashCode\\b", "\\btoString\\b", "\\bpackage\\b", "\\bprotected\\b", "\\bvar\\b",
        "\\bdouble\\b", "\\bfloat\\b", "\\bpublic (?!static final int NONE|final class|PraiseDrawer|int|long)",
    };

    public static void main(String[] args) throws Exception {
        face();
        String text = Files.readString(Path.of("src/main/java/PraiseDrawer.java"));
        String code = text.replaceAll("(?s)/\\*.*?\\*/", "").replaceAll("//[^\\n]*", "");
        for (String outlawed : OUTLAWED) {
            DUE.holds("nothing of " + outlawed, !Pattern.compile(outlawed).matcher(code).find());
        }
        DUE.holds("signs 1 to 127 alone", text.chars().allMatch(c -> c < 128));
        DUE.holds("only java.util.Arrays is imported", Pattern.compile("import (?!java\\.util\\.Arrays;)").matcher(code).results().findAny().isEmpty());
        newStandsInFieldsAndConstructorsAlone(code);
        methodsAreShort(code);
        DUE.end();
    }

    private static void face() {
        Class<?> x = PraiseDrawer.class;
        DUE.holds("public and final", Modifier.isPublic(x.getModifiers()) && Modifier.isFinal(x.getModifiers()));
        TreeSet<String> faces = new TreeSet<>();
        TreeSet<String> names = new TreeSet<>();
        for (Method m : x.getDeclaredMethods()) {
            if (Modifier.isPrivate(m.getModifiers()) || m.isSynthetic()) continue;
            List<String> kinds = new ArrayList<>();
            for (Class<?> kind : m.getParameterTypes()) kinds.add(kind.getName());
            faces.add(m.getReturnType() + " " + m.getName() + "(" + String.join(",", kinds) + ")");
            names.add(m.getName());
            DUE.holds(m + " is public, not static", Modifier.isPublic(m.getModifiers()) && !Modifier.isStatic(m.getModifiers()));
        }
        DUE.holds("the methods of the face: " + faces, faces.equals(new TreeSet<>(Arrays.asList(FACE))));
        Constructor<?>[] made = x.getDeclaredConstructors();
        DUE.holds("one public constructor", made.length == 1 && Modifier.isPublic(made[0].getModifiers()) && made[0].getParameterCount() == 0);
        TreeSet<String> constants = new TreeSet<>();
        for (Field f : x.getDeclaredFields()) if (!Modifier.isPrivate(f.getModifiers())) constants.add(f.getName());
        DUE.holds("the constants of the face: " + constants, constants.equals(new TreeSet<>(List.of("NONE", "BAD", "NO", "FULL"))));
        inside(x, names);
    }

    private static void inside(Class<?> x, TreeSet<String> names) {
        int classes = 1;
        for (Class<?> c : x.getDeclaredClasses()) {
            classes++;
            DUE.holds(c + " is static", Modifier.isStatic(c.getModifiers()));
            DUE.holds(c + " is not public", !Modifier.isPublic(c.getModifiers()) && !Modifier.isProtected(c.getModifiers()));
            for (Method m : c.getDeclaredMethods()) DUE.holds(m + " has a name of its own", !names.contains(m.getName()));
            fields(c);
        }
        fields(x);
        for (Method m : x.getDeclaredMethods()) {
            DUE.holds(m + " has a name of its own", !Modifier.isPrivate(m.getModifiers()) || !names.contains(m.getName()));
            DUE.holds(m + " takes seven at most", m.getParameterCount() <= 7);
        }
        DUE.holds("twelve classes at most, not " + classes, classes <= 12);
    }

    private static void fields(Class<?> c) {
        int fields = 0;
        for (Field f : c.getDeclaredFields()) {
            boolean isStatic = Modifier.isStatic(f.getModifiers());
            DUE.holds(f + " is final if static", !isStatic || Modifier.isFinal(f.getModifiers()));
            if (!isStatic) fields++;
        }
        DUE.holds(c + " has twenty fields at most, not " + fields, fields <= 20);
    }

    /** The room of a run is filled by constructors alone: rows are made once, with the object. */
    private static void newStandsInFieldsAndConstructorsAlone(String code) {
        Matcher makes = Pattern.compile("(?m)^.*\\bnew\\b.*$").matcher(code);
        while (makes.find()) {
            String line = makes.group().trim();
            DUE.holds("made with the object: " + line,
                    line.startsWith("private final ") || line.startsWith("final ") || line.matches("[a-zA-Z]+(\\[gift\\])? = new .*"));
        }
    }

    private static void methodsAreShort(String code) {
        int length = 0;
        for (String line : code.split("\n")) {
            boolean starts = line.matches("( {4}| {8})(public|private|static|int|long|void|boolean|[A-Z]\\w+\\().*\\{");
            length = starts ? 1 : length + 1;
            if (line.matches("( {4}| {8})\\}")) DUE.holds("a method of sixty lines at most, not " + length, length <= 60 || line.matches(" {4}\\}"));
        }
    }
}
