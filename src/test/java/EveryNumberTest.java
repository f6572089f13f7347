import java.util.function.Predicate;
import java.util.function.Supplier;

/**
 * Every number of every call, alone and by twos: far too small, just too small, the least, the greatest, just
 * too large, far too large; in a drawer that is empty, begun, and full. What is not as told is BAD, and changes
 * nothing; what is as told is not BAD.
 */
public final class EveryNumberTest {
    private static final int NONE = -1, BAD = -2, NO = -3, FULL = -4, BAD_TEN = -10;
    private static final Predicate<int[]> ANY = told -> true;
    private static final Predicate<int[]> TWO_AHEAD = told -> told[0] != told[1];

    private interface Call {
        long of(PraiseDrawer x, int[] told);
    }

    private final Due due;
    private final String state;
    private final Supplier<PraiseDrawer> made;

    private EveryNumberTest(Due due, String state, Supplier<PraiseDrawer> made) {
        this.due = due;
        this.state = state;
        this.made = made;
    }

    public static void main(String[] args) {
        Due due = new Due("EveryNumberTest");
        new EveryNumberTest(due, "empty", PraiseDrawer::new).all();
        new EveryNumberTest(due, "begun", Drawers::begun).all();
        new EveryNumberTest(due, "full", Drawers::full).all();
        due.end();
    }

    private void all() {
        PraiseDrawer x = made.get();
        int words = x.count(0) - 1, hands = x.count(1) - 1, pupils = x.count(2) - 1, letters = x.count(3) - 1;
        wordsHandsPupilsLetters(words, hands, pupils, letters);
        yearsAndSideBySide(words, hands, letters);
        ordersDealsBoundsForms(hands, pupils, letters, x.count(5));
        theFraction();
    }

    private void wordsHandsPupilsLetters(int words, int hands, int pupils, int letters) {
        every("word", BAD, (x, t) -> x.word(t[0], t[1]), ANY, 0, 9, 0, 2);
        every("hand", BAD, (x, t) -> x.hand(t[0]), ANY, NONE, hands);
        every("pupil", BAD, (x, t) -> x.pupil(t[0], t[1]), ANY, 1, 2, NONE, 3);
        every("became", BAD_TEN, (x, t) -> x.became(t[0], t[1]), ANY, 0, pupils, NONE, 3);
        every("letter", BAD, (x, t) -> x.letter(t[0], t[1], t[2]), ANY, 0, hands, 0, pupils, 0, 39);
        every("write", BAD, (x, t) -> x.write(t[0], t[1]), ANY, 0, letters, 0, words);
        every("weight", BAD, (x, t) -> x.weight(t[0], t[1]), ANY, 0, 3, 1, 9);
        every("uses", BAD, (x, t) -> x.uses(t[0], t[1], t[2]), ANY, 0, hands, 0, words, 0, 3);
        every("means", BAD, (x, t) -> x.means(t[0], t[1], t[2]), ANY, 0, hands, 0, words, 0, 3);
        every("odds", BAD, (x, t) -> x.odds(t[0], t[1]), ANY, 0, pupils, 0, 3);
        every("likeliest", BAD, (x, t) -> x.likeliest(t[0]), ANY, 0, pupils);
        every("says", BAD, (x, t) -> x.says(t[0]), ANY, 0, hands);
    }

    private void yearsAndSideBySide(int words, int hands, int letters) {
        every("year", BAD, (x, t) -> x.year(t[0], t[1]), ANY, 0, 39, NONE, hands);
        every("asIn", BAD, (x, t) -> x.asIn(t[0], t[1], t[2]), ANY, 0, 9, 0, 39, 0, 39);
        every("about", BAD, (x, t) -> x.about(t[0], t[1], t[2]), ANY, 0, words, 0, 3, 0, 3);
        every("chance", BAD, (x, t) -> x.chance(t[0], t[1], t[2]), ANY, 0, words, 0, 3, 0, 1);
        every("like", BAD, (x, t) -> x.like(t[0], t[1], t[2]), TWO_AHEAD, 0, letters, 0, letters, 0, 1);
        every("left", BAD, (x, t) -> x.left(t[0], t[1]), ANY, 0, letters, 1, 8);
        every("slip", BAD, (x, t) -> x.slip(t[0]), ANY, 0, letters);
    }

    private void ordersDealsBoundsForms(int hands, int pupils, int letters, int questions) {
        every("said", BAD, (x, t) -> x.said(t[2], t[0], t[1]), TWO_AHEAD, 0, pupils, 0, pupils, 0, hands);
        every("order", BAD_TEN, (x, t) -> x.order(t[0]), ANY, NONE, pupils);
        every("sure", BAD, (x, t) -> x.sure(t[0], t[1]), TWO_AHEAD, 0, pupils, 0, pupils);
        every("kin", BAD, (x, t) -> x.kin(t[0], t[1]), ANY, 0, 5, 0, 63);
        every("dealt", BAD_TEN, (x, t) -> x.dealt(t[0], t[1]), EveryNumberTest::canBeDealt,
                1, (1 << letters + 1) - 1, NONE, letters);
        every("bounds", BAD, (x, t) -> x.bounds(t[0], t[1], t[2], t[3]), t -> t[2] <= t[1] && t[1] <= t[0],
                1, 9999, 0, 9999, 0, 9999, 0, 1);
        every("question", BAD, (x, t) -> x.question(t[0], t[1], t[2], t[3], t[4]), ANY,
                1, 30, 0, 100, 0, 100, 0, 100, 0, 100);
        every("tells", BAD, (x, t) -> x.tells(t[0]), ANY, 0, (1 << questions) - 1);
        every("form", BAD, (x, t) -> x.form(t[0]), ANY, 0, 200);
    }

    private void theFraction() {
        every("sign", BAD, (x, t) -> x.sign(t[0]), ANY, 0, 2);
        every("limb", BAD, (x, t) -> x.limb(t[0], t[1]), ANY, 0, 1, 0, Integer.MAX_VALUE);
        every("count", BAD, (x, t) -> x.count(t[0]), ANY, 0, 5);
    }

    private static boolean canBeDealt(int[] told) {
        boolean isDealt = told[1] == NONE || (told[0] >> told[1] & 1) == 1;
        return Integer.bitCount(told[0]) <= 6 && isDealt;
    }

    /** Ranges: the least and the greatest of each number, one behind the other. */
    private void every(String name, int bad, Call call, Predicate<int[]> isLegal, int... ranges) {
        int numbers = ranges.length / 2;
        for (int one = 0; one < numbers; one++) {
            for (int two = one; two < numbers; two++) {
                for (int a : edges(ranges[2 * one], ranges[2 * one + 1])) {
                    for (int b : edges(ranges[2 * two], ranges[2 * two + 1])) {
                        int[] told = ordinary(ranges);
                        told[one] = a;
                        told[two] = b;
                        once(name, bad, call, isWithin(told, ranges) && isLegal.test(told), told);
                    }
                }
            }
        }
    }

    private static int[] edges(int least, int most) {
        return new int[] {Integer.MIN_VALUE, -65, least - 1, least, most / 2, most, most + 1, 1 << 30, Integer.MAX_VALUE};
    }

    /** The first number is told great and the others small, so that bounds and two alike do not stand in the way. */
    private static int[] ordinary(int[] ranges) {
        int[] told = new int[ranges.length / 2];
        for (int i = 0; i < told.length; i++) told[i] = Math.max(0, ranges[2 * i]);
        if (told.length > 1 && ranges[1] >= ranges[0]) told[0] = Math.min(ranges[1], 9999);
        return told;
    }

    private static boolean isWithin(int[] told, int[] ranges) {
        boolean isWithin = true;
        for (int i = 0; i < told.length; i++) isWithin &= ranges[2 * i] <= told[i] && told[i] <= ranges[2 * i + 1];
        return isWithin;
    }

    private void once(String name, int bad, Call call, boolean isLegal, int[] told) {
        PraiseDrawer x = made.get();
        long before = x.digest();
        long answer = call.of(x, told);
        String label = state + " " + name + java.util.Arrays.toString(told);
        due.holds(label + " is " + (isLegal ? "as told" : "BAD") + ", answered " + answer, isLegal != (answer == bad));
        if (answer == bad || answer == NO || answer == FULL) due.due(label + " changes nothing", x.digest(), before);
    }
}
