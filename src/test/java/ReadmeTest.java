import java.lang.reflect.Method;
import java.lang.reflect.Modifier;
import java.nio.file.Files;
import java.nio.file.Path;
import java.util.ArrayList;
import java.util.List;

/** What README.md tells: its example answers as it says, and every call of the face stands in it. */
public final class ReadmeTest {
    private static final Due DUE = new Due("ReadmeTest");

    public static void main(String[] args) throws Exception {
        List<String> readme = Files.readAllLines(Path.of("README.md"));
        example();
        List<String> told = exampleIn(readme, "```java", "```");
        List<String> done = exampleIn(Files.readAllLines(Path.of("src/test/java/ReadmeTest.java")), "// README", "// README ends");
        DUE.holds("there is an example", told.size() > 10);
        DUE.holds("README's example is the one that is tested here: " + told, told.equals(done));
        String text = String.join("\n", readme);
        for (Method m : PraiseDrawer.class.getDeclaredMethods()) {
            if (Modifier.isPublic(m.getModifiers())) DUE.holds("README tells of " + m, toldAs(text, m));
        }
        for (String named : List.of("NONE", "BAD", "NO", "FULL")) DUE.holds("README tells of " + named, text.contains("`" + named + "`"));
        for (String test : testsIn(Path.of("src/test/java"))) DUE.holds("README tells of " + test, text.contains("`" + test + "`"));
        DUE.end();
    }

    private static void example() {
        // README
        PraiseDrawer x = new PraiseDrawer();
        int fine = x.word(9, 0);                     // a word of rank 9, of anybody
        int manly = x.word(4, 1);                    // a word of rank 4, of a he
        int hand = x.hand(PraiseDrawer.NONE);        // a hand without kin
        int known = x.pupil(1, 3);                   // a he who had gift 3
        int other = x.pupil(2, PraiseDrawer.NONE);   // a she whose gift is not known
        int first = x.letter(hand, known, 5);        // the hand's letter of the he, in year 5
        x.write(first, fine);
        x.write(first, fine);
        int second = x.letter(hand, other, 6);       // the hand's letter of the she, in year 6
        x.write(second, fine);
        x.odds(other, 3);                            // 1: THE FRACTION is the odds of gift 3
        int above = x.limb(0, 0);                    // 1 ..
        int below = x.limb(1, 0);                    // .. by 3
        int likeliest = x.likeliest(other);          // 3
        x.write(second, manly);
        int place = x.slip(second);                  // 1: the word in place 1 is of a he
        int refused = x.write(second, 7);            // BAD: there is no word 7
        // README ends
        // Gift 3: fine is 1 and 2 uses by 2 words and 2 uses; each of the other three: 1 by 2. 3 by 4 of 9 by 4.
        DUE.due("above", above, 1);
        DUE.due("below", below, 3);
        // With the word of a he: 3 by 16 for gift 3, 1 by 4 for each of the others.
        DUE.fraction("odds(other, 3)", x, x.odds(other, 3), 1, 5);
        DUE.due("likeliest", likeliest, 3);
        DUE.due("place", place, 1);
        DUE.due("refused", refused, PraiseDrawer.BAD);
    }

    /** The lines between the first that is as begins, and the next that is as ends. */
    private static List<String> exampleIn(List<String> lines, String begins, String ends) {
        List<String> found = new ArrayList<>();
        boolean isIn = false;
        for (String line : lines) {
            String text = line.trim();
            if (isIn && text.equals(ends)) return found;
            if (isIn) found.add(text);
            isIn |= text.equals(begins);
        }
        return found;
    }

    /** Its name with as many numbers as it takes, behind a tick. */
    private static boolean toldAs(String text, Method m) {
        int numbers = m.getParameterCount();
        String told = numbers == 0 ? "" : "\\w+" + "(, \\w+)".repeat(numbers - 1);
        return java.util.regex.Pattern.compile("`" + m.getName() + "\\(" + told + "\\)`").matcher(text).find();
    }

    private static List<String> testsIn(Path dir) throws Exception {
        List<String> names = new ArrayList<>();
        try (var files = Files.newDirectoryStream(dir, "*.java")) {
            for (Path file : files) names.add(file.getFileName().toString().replace(".java", ""));
        }
        return names;
    }
}
