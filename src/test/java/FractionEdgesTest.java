import java.math.BigInteger;
import java.util.ArrayList;
import java.util.List;

/**
 * The edges that the document names for THE FRACTION, for what is refused, for the counts and the digest: a test
 * of its own for each sentence, whose words stand above it.
 */
public final class FractionEdgesTest {
    private static final int NONE = -1, BAD = -2, NO = -3, FULL = -4, BAD_TEN = -10;
    private static final int BASE = 1073741824;
    private static Due due;

    public static void main(String[] args) {
        due = new Due("FractionEdgesTest");
        zeroByOneAtFirst();
        zeroAgain();
        lowestTerms();
        baseLessOne();
        baseItself();
        lowestLimbFirst();
        oddsOfUpToTenLimbs();
        fewerLimbsBehindMany();
        signsAndLimbsNotThere();
        fractionIsLeftByOtherCalls();
        fractionIsLeftByRefusedCalls();
        badAheadOfNo();
        badAheadOfFull();
        minusTen();
        countsThatAreNot();
        digestOfNothing();
        digestOfEverything();
        digestOfEachChange();
        fiveHundredAndTwelveCalls();
        due.end();
    }

    private static void limbs(String call, PraiseDrawer x, int which, int... want) {
        due.due(call + ": limbs", x.sign(1 + which), want.length);
        for (int i = 0; i < want.length; i++) due.due(call + ": limb " + i, x.limb(which, i), want[i]);
        due.due(call + ": no further limb", x.limb(which, want.length), NONE);
    }

    // "THE FRACTION is 0 by 1 at first".
    private static void zeroByOneAtFirst() {
        PraiseDrawer x = new PraiseDrawer();
        due.due("sign of 0", x.sign(0), 0);
        limbs("above", x, 0);
        limbs("below", x, 1, 1);
    }

    // "lowest terms, below above 0": 0 by 9999, behind another fraction.
    private static void zeroAgain() {
        PraiseDrawer x = new PraiseDrawer();
        x.bounds(9999, 9998, 9998, 1);
        due.due("sign of 1", x.sign(0), 1);
        limbs("above", x, 0, 1);
        x.bounds(9999, 9998, 0, 0);
        due.due("sign of 0", x.sign(0), 0);
        limbs("above", x, 0);
        limbs("below", x, 1, 1);
    }

    // "lowest terms".
    private static void lowestTerms() {
        PraiseDrawer x = new PraiseDrawer();
        due.fraction("4 by 6", x, x.bounds(6, 6, 4, 0), 2, 3);
        due.fraction("5 by 6", x, x.bounds(6, 6, 5, 0), 5, 6);
        due.fraction("6 by 6", x, x.bounds(6, 6, 6, 0), 1, 1);
        due.fraction("9973, a prime, by itself", x, x.bounds(9973, 9973, 9973, 0), 1, 1);
        due.fraction("9998 by 9999", x, x.bounds(9999, 9999, 9998, 0), 9998, 9999);
        due.fraction("4096 by 8192", x, x.bounds(8192, 8192, 4096, 0), 1, 2);
    }

    /**
     * Of two words, one means 8 by 9 for gift 0 and 1 by 2 for the others; of a pupil, seven times. So the odds
     * of gift 0 are its weight times 16 to the 7th, over that and three times 9 to the 7th.
     */
    private static PraiseDrawer powersOfTwo(int weight) {
        PraiseDrawer x = Drawers.withWords(0, 0);
        x.hand(NONE);
        x.pupil(1, 0);
        x.pupil(2, NONE);
        Drawers.write(x, 0, 0, 0, 0, 0, 0, 0, 0, 0, 0);
        Drawers.write(x, 0, 1, 0, 0, 0, 0, 0, 0, 0, 0);
        x.weight(0, weight);
        return x;
    }

    // "digits to the base 1073741824": below it is one limb.
    private static void baseLessOne() {
        PraiseDrawer x = powersOfTwo(2);
        due.due("odds", x.odds(1, 0), 1);
        limbs("half of the base", x, 0, BASE / 2);
        limbs("half of the base, and 3 times 9 to the 7th", x, 1, BASE / 2 + 14348907);
        due.due("odds", x.odds(1, 1), 1);
        limbs("9 to the 7th", x, 0, 4782969);
    }

    // "digits to the base 1073741824": the base itself is 0 and 1.
    private static void baseItself() {
        PraiseDrawer x = powersOfTwo(4);
        due.due("odds", x.odds(1, 0), 1);
        limbs("the base", x, 0, 0, 1);
        limbs("the base, and 3 times 9 to the 7th", x, 1, 14348907, 1);
    }

    // "the lowest first".
    private static void lowestLimbFirst() {
        PraiseDrawer x = new PraiseDrawer();
        for (int i = 0; i < 6; i++) x.question(1, 99, 100, 100, 100);
        due.due("tells", x.tells(63), 1);
        // 1 and 1 less (99 by 100) to the 6th, by 4: 10 to the 12th and 58519850599, by 4 times 10 to the 12th.
        long above = 1058519850599L, below = 4000000000000L;
        limbs("two limbs above", x, 0, (int) (above % BASE), (int) (above / BASE));
        limbs("two limbs below", x, 1, (int) (below % BASE), (int) (below / BASE));
    }

    /**
     * Of 8 words, for the four gifts word 0 means 53 by 64, 47 by 63, 43 by 61 and 41 by 59; of pupil 4, letters 28
     * and 29, without words yet. No prime divides all four shares of word 0, so nothing of them cancels.
     */
    private static PraiseDrawer upToTenLimbs() {
        PraiseDrawer x = Drawers.withWords(0, 1, 2, 3, 4, 5, 6, 7);
        x.hand(NONE);
        int[] above = {53, 47, 43, 41}, below = {64, 63, 61, 59};
        for (int gift = 0; gift < 4; gift++) {
            x.pupil(1, gift);
            int letter = NONE;
            for (int i = 0; i < below[gift] - 8; i++) {
                if (i % 8 == 0) letter = x.letter(0, gift, 0);
                x.write(letter, i < above[gift] - 1 ? 0 : 1);
            }
        }
        x.pupil(2, NONE);
        for (int i = 0; i < 2; i++) x.letter(0, 4, 0);
        return x;
    }

    // "Its limbs are digits": of one word to as many as the odds of twelve words can have.
    private static void oddsOfUpToTenLimbs() {
        PraiseDrawer x = upToTenLimbs();
        for (int words = 1; words <= 12; words++) {
            x.write(words % 2 == 0 ? 28 : 29, 0);
            oddsOfSoMany(x, words);
        }
        due.due("ten limbs below", x.sign(2), 10);
        due.due("the greatest of many limbs", x.likeliest(4), 0);
    }

    private static void oddsOfSoMany(PraiseDrawer x, int words) {
        BigInteger[] shares = new BigInteger[4];
        int[] share0 = {53, 63, 61, 59}, share1 = {47, 64, 61, 59}, share2 = {43, 64, 63, 59}, share3 = {41, 64, 63, 61};
        int[][] factors = {share0, share1, share2, share3};
        BigInteger whole = BigInteger.ZERO;
        for (int gift = 0; gift < 4; gift++) {
            BigInteger product = BigInteger.ONE;
            for (int factor : factors[gift]) product = product.multiply(BigInteger.valueOf(factor));
            shares[gift] = product.pow(words);
            whole = whole.add(shares[gift]);
        }
        for (int gift = 0; gift < 4; gift++) {
            due.due("odds of " + words, x.odds(4, gift), 1);
            limbs(words + " words, share " + gift, x, 0, digits(shares[gift]));
            limbs(words + " words, whole", x, 1, digits(whole));
        }
    }

    private static int[] digits(BigInteger number) {
        int[] digits = new int[(number.bitLength() + 29) / 30];
        for (int i = 0; i < digits.length; i++) digits[i] = number.shiftRight(30 * i).intValue() & BASE - 1;
        return digits;
    }

    // 31: "NONE: not so many": the limbs of a longer fraction are gone with it.
    private static void fewerLimbsBehindMany() {
        PraiseDrawer x = powersOfTwo(4);
        x.odds(1, 0);
        due.due("two limbs", x.limb(0, 1), 1);
        x.bounds(3, 3, 2, 0);
        limbs("one above", x, 0, 2);
        limbs("one below", x, 1, 3);
        x.odds(1, 0);
        x.bounds(3, 3, 0, 0);
        limbs("none above", x, 0);
    }

    // 30: "its sign (0), how many limbs above (1), below (2). BAD."; 31: "BAD: i below 0, too."
    private static void signsAndLimbsNotThere() {
        PraiseDrawer x = new PraiseDrawer();
        x.bounds(3, 3, 2, 0);
        int[] wrong = {-1, 3, Integer.MIN_VALUE, Integer.MAX_VALUE};
        for (int what : wrong) due.refused("sign " + what, x, () -> x.sign(what), BAD);
        for (int which : new int[] {-1, 2, Integer.MIN_VALUE, Integer.MAX_VALUE}) {
            due.refused("limb of " + which, x, () -> x.limb(which, 0), BAD);
        }
        for (int which = 0; which < 2; which++) {
            int side = which;
            due.refused("limb -1", x, () -> x.limb(side, -1), BAD);
            due.refused("limb of the least number", x, () -> x.limb(side, Integer.MIN_VALUE), BAD);
            for (int i : new int[] {1, 12, 13, 15, 16, 17, Integer.MAX_VALUE}) {
                due.refused("limb " + i, x, () -> x.limb(side, i), NONE);
            }
        }
    }

    // 10 to 29: only what "is THE FRACTION" changes it.
    private static void fractionIsLeftByOtherCalls() {
        PraiseDrawer x = Drawers.begun();
        due.fraction("begun", x, 7, 10);
        x.word(0, 0);
        x.hand(NONE);
        x.pupil(1, 1);
        x.became(0, 1);
        x.letter(0, 0, 0);
        x.write(0, 0);
        x.weight(0, 2);
        x.uses(0, 0, 0);
        x.likeliest(0);
        x.asIn(0, 0, 0);
        x.about(0, 0, 0);
        x.like(0, 1, 1);
        x.left(1, 1);
        x.slip(0);
        x.said(0, 0, 1);
        x.order(0);
        x.sure(0, 1);
        x.kin(0, 1);
        x.dealt(1, 0);
        x.question(1, 0, 0, 0, 0);
        x.form(10);
        x.count(0);
        x.digest();
        due.fraction("left as it was", x, 7, 10);
    }

    // "Refused, changing nothing".
    private static void fractionIsLeftByRefusedCalls() {
        PraiseDrawer x = Drawers.begun();
        due.refused("means", x, () -> x.means(0, 0, 4), BAD);
        due.refused("odds", x, () -> x.odds(3, 0), BAD);
        due.refused("says", x, () -> x.says(2), BAD);
        due.refused("year", x, () -> x.year(7, NONE), NO);
        due.refused("chance", x, () -> x.chance(0, 0, 2), BAD);
        due.refused("bounds", x, () -> x.bounds(1, 2, 0, 0), BAD);
        due.refused("tells", x, () -> x.tells(4), BAD);
        due.fraction("left as it was", x, 7, 10);
    }

    // "the first of: BAD -2 a number is not as told; NO -3 as told".
    private static void badAheadOfNo() {
        PraiseDrawer x = Drawers.withPupils(1);
        due.refused("says: no words", x, () -> x.says(0), NO);
        due.refused("says: no words and no such hand", x, () -> x.says(1), BAD);
        due.refused("year: no words", x, () -> x.year(0, 0), NO);
        due.refused("year: no words and no such hand", x, () -> x.year(0, 1), BAD);
        due.refused("year: no words and no such year", x, () -> x.year(40, 0), BAD);
        due.refused("asIn: no words", x, () -> x.asIn(0, 0, 0), NO);
        due.refused("asIn: no words and no such rank", x, () -> x.asIn(10, 0, 0), BAD);
        due.refused("asIn: no words and no such year a", x, () -> x.asIn(0, 40, 0), BAD);
        due.refused("asIn: no words and no such year b", x, () -> x.asIn(0, 0, 40), BAD);
        x.word(0, 0);
        for (int i = 0; i < 2; i++) Drawers.write(x, 0, 0, 0, 0, 0, 0, 0, 0, 0, 0, 0);
        due.refused("odds: too many words", x, () -> x.odds(0, 0), NO);
        due.refused("odds: too many words and no such gift", x, () -> x.odds(0, 4), BAD);
        due.refused("likeliest: too many words", x, () -> x.likeliest(0), NO);
    }

    // "the first of: BAD .. ; FULL -4".
    private static void badAheadOfFull() {
        PraiseDrawer x = Drawers.full();
        due.refused("word", x, () -> x.word(9, 2), FULL);
        due.refused("word and a wrong one", x, () -> x.word(9, 3), BAD);
        due.refused("hand", x, () -> x.hand(0), FULL);
        due.refused("hand and a wrong kin", x, () -> x.hand(6), BAD);
        due.refused("pupil", x, () -> x.pupil(1, 0), FULL);
        due.refused("pupil and a wrong gift", x, () -> x.pupil(1, 4), BAD);
        due.refused("letter", x, () -> x.letter(0, 0, 0), FULL);
        due.refused("letter and a wrong pupil", x, () -> x.letter(0, 8, 0), BAD);
        due.refused("write", x, () -> x.write(29, 7), FULL);
        due.refused("write and a wrong word", x, () -> x.write(29, 8), BAD);
        due.refused("write and a wrong letter", x, () -> x.write(30, 7), BAD);
        due.refused("said", x, () -> x.said(0, 0, 1), FULL);
        due.refused("said and two alike", x, () -> x.said(0, 1, 1), BAD);
        due.refused("question", x, () -> x.question(1, 0, 0, 0, 0), FULL);
        due.refused("question and wrong minutes", x, () -> x.question(31, 0, 0, 0, 0), BAD);
    }

    // 5, 22, 25: "BAD: -10": where -2 would be taken for less than NONE.
    private static void minusTen() {
        PraiseDrawer x = Drawers.begun();
        due.refused("became", x, () -> x.became(3, 0), BAD_TEN);
        due.refused("order", x, () -> x.order(3), BAD_TEN);
        due.refused("dealt", x, () -> x.dealt(8, NONE), BAD_TEN);
        due.refused("dealt, a letter that is not dealt", x, () -> x.dealt(4, 0), BAD_TEN);
    }

    // 32: "0 WORDS, 1 HANDS, 2 PUPILS, 3 LETTERS, 4 SAID, 5 QUESTIONS. BAD."
    private static void countsThatAreNot() {
        PraiseDrawer x = Drawers.full();
        int[] most = {8, 6, 8, 30, 40, 6};
        for (int what = 0; what < 6; what++) due.due("count " + what, x.count(what), most[what]);
        for (int what : new int[] {-1, 6, Integer.MIN_VALUE, Integer.MAX_VALUE}) {
            due.refused("count " + what, x, () -> x.count(what), BAD);
        }
    }

    private static long hash(List<Integer> values) {
        long h = 479;
        for (int v : values) h = 31 * h + v;
        return h;
    }

    // 33: "h = 479; then h = 31 h + v for each v": nothing is there.
    private static void digestOfNothing() {
        List<Integer> all = new ArrayList<>();
        for (int v : new int[] {0, 0, 0, 0, 0, 0, 1, 1, 1, 1, 0, 0, 0, 0, 0, 0, 0, 0, 0, 1, 1}) all.add(v);
        due.due("digest of nothing", new PraiseDrawer().digest(), hash(all));
    }

    // 33: "h = 31 h + v": of everything, past what a long holds.
    private static void digestOfEverything() {
        List<Integer> all = new ArrayList<>();
        for (int v : new int[] {8, 6, 8, 30, 40, 6}) all.add(v);
        for (int i = 0; i < 8; i++) add(all, i, i % 3);
        for (int i = 0; i < 6; i++) add(all, i - 1);
        for (int i = 0; i < 8; i++) add(all, 1 + i % 2, i % 5 - 1);
        for (int i = 0; i < 30; i++) add(all, i % 6, i % 8, i, 8, i % 8, 1, 2, 3, i % 5, 5, 6, 7);
        add(all, 1, 1, 1, 1);
        for (int i = 0; i < 40; i++) add(all, i % 6, i % 8, (i + 1 + i % 7) % 8);
        add(all, 0, 0, 0, 0, 0, 0);
        for (int i = 0; i < 6; i++) add(all, 1 + i, 10 * i, 90, 50, 100 - i);
        PraiseDrawer x = Drawers.full();
        add(all, x.order(NONE), 1, 1, 1, 7, 10);
        due.due("digest of everything", x.digest(), hash(all));
        due.due("digest of everything again", x.digest(), hash(all));
    }

    private static void add(List<Integer> all, int... values) {
        for (int v : values) all.add(v);
    }

    // 33: each thing that is named in it.
    private static void digestOfEachChange() {
        PraiseDrawer x = Drawers.begun();
        long before = x.digest();
        before = changed("word", x, before, x.word(0, 0), 3);
        before = changed("hand", x, before, x.hand(NONE), 2);
        before = changed("pupil", x, before, x.pupil(1, NONE), 3);
        before = changed("became", x, before, x.became(3, 2), NONE);
        before = changed("letter", x, before, x.letter(2, 3, 0), 3);
        before = changed("write", x, before, x.write(3, 0), 1);
        before = changed("weight", x, before, x.weight(3, 2), 1);
        before = changed("said", x, before, x.said(2, 3, 0), 3);
        before = changed("kin", x, before, x.kin(5, 32), 0);
        before = changed("question", x, before, x.question(1, 0, 0, 0, 0), 2);
        before = changed("the fraction", x, before, x.bounds(3, 3, 2, 0), 1);
        changed("the fraction, below", x, before, x.bounds(5, 5, 2, 0), 1);
    }

    private static long changed(String call, PraiseDrawer x, long before, int answer, int want) {
        due.due(call, answer, want);
        due.holds(call + " is in the digest", x.digest() != before);
        return x.digest();
    }

    // "An object is used for at most 512 calls after it has been made": the last of them.
    private static void fiveHundredAndTwelveCalls() {
        PraiseDrawer x = new PraiseDrawer();
        for (int call = 0; call < 506; call++) due.due("call " + call, x.weight(3, 1 + (call + 1) % 9), 1 + call % 9);
        due.fraction("calls 506 to 511", x, x.tells(0), 1, 2);
        PraiseDrawer full = Drawers.full();
        for (int call = 339; call < 511; call++) full.weight(0, 1 + call % 9);
        due.due("call 511 of a full drawer", full.dealt(63 << 24, NONE), 720);
    }
}
