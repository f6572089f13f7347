/** Each promise of the document by examples worked out by hand: ordinary inputs, edges, wrong inputs. */
public final class PromisesTest {
    private static final int NONE = -1, BAD = -2, NO = -3, FULL = -4;
    private static final int MOST = Integer.MAX_VALUE, LEAST = Integer.MIN_VALUE;
    private static Due due;

    public static void main(String[] args) {
        due = new Due("PromisesTest");
        p1NewObject();
        p2Word();
        p3Hand();
        p4Pupil();
        p5Became();
        p6Letter();
        p7Write();
        p8Weight();
        p9Uses();
        p10Means();
        p11Odds();
        p11OddsOfManyLimbs();
        p11OddsOfGreatFactors();
        p12Likeliest();
        p13Says();
        p14Year();
        p15AsIn();
        p16About();
        p17Chance();
        p18Like();
        p19Left();
        p20Slip();
        p21Said();
        p22Order();
        p23Sure();
        p24Kin();
        p25Dealt();
        p26Bounds();
        p27Question();
        p28Tells();
        p29Form();
        p30Sign();
        p31Limb();
        p32Count();
        p33Digest();
        refusedChangesNothing();
        due.end();
    }

    private static void p1NewObject() {
        due.due("NONE", PraiseDrawer.NONE, -1);
        due.due("BAD", PraiseDrawer.BAD, -2);
        due.due("NO", PraiseDrawer.NO, -3);
        due.due("FULL", PraiseDrawer.FULL, -4);
        PraiseDrawer x = new PraiseDrawer();
        for (int what = 0; what < 6; what++) due.due("1 count", x.count(what), 0);
        due.fraction("1 fraction", x, 0, 1);
        for (int gift = 0; gift < 4; gift++) due.due("1 weight", x.weight(gift, 1), 1);
        for (int reader = 0; reader < 6; reader++) due.due("1 kin", x.kin(reader, 0), 0);
        due.due("1 order", x.order(NONE), 0);
        due.due("1 order 0", x.order(0), -10);
        due.due("1 form", x.form(200), 0);
        due.due("1 tells", x.tells(0), 1);
        due.fraction("1 tells", x, 1, 4);
    }

    private static void p2Word() {
        PraiseDrawer x = new PraiseDrawer();
        due.due("2 word(0, 0)", x.word(0, 0), 0);
        due.due("2 word(9, 2)", x.word(9, 2), 1);
        due.due("2 word(-1, 0)", x.word(-1, 0), BAD);
        due.due("2 word(10, 0)", x.word(10, 0), BAD);
        due.due("2 word(0, -1)", x.word(0, -1), BAD);
        due.due("2 word(0, 3)", x.word(0, 3), BAD);
        due.due("2 word(MOST, LEAST)", x.word(MOST, LEAST), BAD);
        for (int i = 2; i < 8; i++) due.due("2 word(5, 1)", x.word(5, 1), i);
        due.due("2 a ninth", x.word(5, 1), FULL);
        due.due("2 a bad ninth", x.word(5, 3), BAD);
        due.due("2 count", x.count(0), 8);
    }

    private static void p3Hand() {
        PraiseDrawer x = new PraiseDrawer();
        due.due("3 no kin yet", x.hand(0), BAD);
        due.due("3 hand(NONE)", x.hand(NONE), 0);
        due.due("3 its own kin", x.hand(1), BAD);
        due.due("3 hand(0)", x.hand(0), 1);
        due.due("3 hand(1)", x.hand(1), 2);
        due.due("3 hand(-2)", x.hand(-2), BAD);
        due.due("3 hand(MOST)", x.hand(MOST), BAD);
        due.due("3 hand(LEAST)", x.hand(LEAST), BAD);
        for (int i = 3; i < 6; i++) due.due("3 hand(NONE)", x.hand(NONE), i);
        due.due("3 a seventh", x.hand(5), FULL);
        due.due("3 a bad seventh", x.hand(6), BAD);
        due.due("3 count", x.count(1), 6);
    }

    private static void p4Pupil() {
        PraiseDrawer x = new PraiseDrawer();
        due.due("4 pupil(1, NONE)", x.pupil(1, NONE), 0);
        due.due("4 pupil(2, 3)", x.pupil(2, 3), 1);
        due.due("4 pupil(0, 0)", x.pupil(0, 0), BAD);
        due.due("4 pupil(3, 0)", x.pupil(3, 0), BAD);
        due.due("4 pupil(1, -2)", x.pupil(1, -2), BAD);
        due.due("4 pupil(1, 4)", x.pupil(1, 4), BAD);
        for (int i = 2; i < 8; i++) due.due("4 pupil(1, 0)", x.pupil(1, 0), i);
        due.due("4 a ninth", x.pupil(1, 0), FULL);
        due.due("4 a bad ninth", x.pupil(1, 4), BAD);
        due.due("4 count", x.count(2), 8);
    }

    private static void p5Became() {
        PraiseDrawer x = new PraiseDrawer();
        due.due("5 nobody yet", x.became(0, 0), -10);
        x.pupil(1, NONE);
        x.pupil(1, 2);
        due.due("5 was not known", x.became(0, 3), NONE);
        due.due("5 was 3", x.became(0, NONE), 3);
        due.due("5 was 2", x.became(1, 0), 2);
        due.due("5 was 0", x.became(1, 0), 0);
        due.due("5 became(2, 0)", x.became(2, 0), -10);
        due.due("5 became(-1, 0)", x.became(-1, 0), -10);
        due.due("5 became(0, 4)", x.became(0, 4), -10);
        due.due("5 became(0, -2)", x.became(0, -2), -10);
        due.due("5 unchanged", x.became(0, NONE), NONE);
    }

    private static void p6Letter() {
        PraiseDrawer x = new PraiseDrawer();
        due.due("6 no hand", x.letter(0, 0, 0), BAD);
        x.hand(NONE);
        due.due("6 no pupil", x.letter(0, 0, 0), BAD);
        x.pupil(1, 0);
        due.due("6 letter(0, 0, 0)", x.letter(0, 0, 0), 0);
        due.due("6 letter(0, 0, 39)", x.letter(0, 0, 39), 1);
        due.due("6 letter(0, 0, 40)", x.letter(0, 0, 40), BAD);
        due.due("6 letter(0, 0, -1)", x.letter(0, 0, -1), BAD);
        due.due("6 letter(1, 0, 0)", x.letter(1, 0, 0), BAD);
        due.due("6 letter(NONE, 0, 0)", x.letter(NONE, 0, 0), BAD);
        due.due("6 letter(0, 1, 0)", x.letter(0, 1, 0), BAD);
        due.due("6 letter(0, NONE, 0)", x.letter(0, NONE, 0), BAD);
        for (int i = 2; i < 30; i++) due.due("6 letter(0, 0, 7)", x.letter(0, 0, 7), i);
        due.due("6 a 31st", x.letter(0, 0, 7), FULL);
        due.due("6 a bad 31st", x.letter(0, 0, 40), BAD);
        due.due("6 count", x.count(3), 30);
    }

    private static void p7Write() {
        PraiseDrawer x = Drawers.withWords(1);
        due.due("7 no letter", x.write(0, 0), BAD);
        x.hand(NONE);
        x.pupil(1, 0);
        x.letter(0, 0, 0);
        x.letter(0, 0, 0);
        for (int i = 1; i <= 8; i++) due.due("7 Drawers.write(0, 0)", x.write(0, 0), i);
        due.due("7 a ninth", x.write(0, 0), FULL);
        due.due("7 a bad ninth", x.write(0, 1), BAD);
        due.due("7 of the other", x.write(1, 0), 1);
        due.due("7 Drawers.write(1, NONE)", x.write(1, NONE), BAD);
        due.due("7 Drawers.write(2, 0)", x.write(2, 0), BAD);
        due.due("7 Drawers.write(NONE, 0)", x.write(NONE, 0), BAD);
    }

    private static void p8Weight() {
        PraiseDrawer x = new PraiseDrawer();
        due.due("8 weight(3, 9)", x.weight(3, 9), 1);
        due.due("8 weight(3, 1)", x.weight(3, 1), 9);
        due.due("8 weight(0, 0)", x.weight(0, 0), BAD);
        due.due("8 weight(0, 10)", x.weight(0, 10), BAD);
        due.due("8 weight(4, 1)", x.weight(4, 1), BAD);
        due.due("8 weight(-1, 1)", x.weight(-1, 1), BAD);
        due.due("8 unchanged", x.weight(0, 5), 1);
    }

    /** Hand 2's kin is 1, whose kin is 0; each has written of pupil 0 (gift 1). */
    private static PraiseDrawer threeHands() {
        PraiseDrawer x = Drawers.withWords(3, 6);
        x.hand(NONE);
        x.hand(0);
        x.hand(1);
        x.pupil(1, 1);
        x.pupil(2, NONE);
        Drawers.write(x, 0, 0, 1, 0, 0, 0);
        Drawers.write(x, 1, 0, 2, 0, 1, 0);
        Drawers.write(x, 2, 0, 3, 1, 0);
        Drawers.write(x, 2, 1, 3, 1, 1, 1);
        return x;
    }

    private static void p9Uses() {
        PraiseDrawer x = threeHands();
        due.due("9 his own", x.uses(0, 0, 1), 3);
        due.due("9 and his kin's", x.uses(1, 0, 1), 5);
        due.due("9 not the kin's kin's", x.uses(2, 0, 1), 3);
        due.due("9 not of an unknown gift", x.uses(2, 1, 1), 2);
        due.due("9 of another gift", x.uses(2, 1, 0), 0);
        x.became(1, 1);
        due.due("9 now known", x.uses(2, 1, 1), 5);
        due.due("9 uses(3, 0, 0)", x.uses(3, 0, 0), BAD);
        due.due("9 uses(NONE, 0, 0)", x.uses(NONE, 0, 0), BAD);
        due.due("9 uses(0, 2, 0)", x.uses(0, 2, 0), BAD);
        due.due("9 uses(0, NONE, 0)", x.uses(0, NONE, 0), BAD);
        due.due("9 uses(0, 0, 4)", x.uses(0, 0, 4), BAD);
        due.due("9 uses(0, 0, NONE)", x.uses(0, 0, NONE), BAD);
    }

    private static void p10Means() {
        PraiseDrawer x = threeHands();
        due.due("10 means(1, 0, 1)", x.means(1, 0, 1), 1);
        due.fraction("10 means(1, 0, 1)", x, 3, 4);
        due.due("10 means(2, 1, 1)", x.means(2, 1, 1), 1);
        due.fraction("10 means(2, 1, 1)", x, 3, 7);
        due.due("10 means(2, 1, 3)", x.means(2, 1, 3), 1);
        due.fraction("10 nothing known", x, 1, 2);
        due.due("10 means(3, 0, 0)", x.means(3, 0, 0), BAD);
        due.due("10 means(0, 2, 0)", x.means(0, 2, 0), BAD);
        due.due("10 means(0, 0, 4)", x.means(0, 0, 4), BAD);
        due.fraction("10 unchanged", x, 1, 2);
    }

    private static void p11Odds() {
        PraiseDrawer x = threeHands();
        // Three times word 1 by hand 2 of pupil 1: (3/7)^3 for gift 1, (1/2)^3 for each of the others.
        due.due("11 odds(1, 1)", x.odds(1, 1), 1);
        due.fraction("11 odds(1, 1)", x, 72, 415);
        due.due("11 odds(1, 3)", x.odds(1, 3), 1);
        due.fraction("11 odds(1, 3)", x, 343, 1245);
        x.became(1, 1);
        due.due("11 as if not known", x.odds(1, 1), 1);
        due.fraction("11 as if not known", x, 72, 415);
        x.weight(1, 9);
        due.due("11 with a weight", x.odds(1, 1), 1);
        due.fraction("11 with a weight", x, 648, 991);
        x.pupil(1, NONE);
        due.due("11 no letter of him", x.odds(2, 1), 1);
        due.fraction("11 no letter of him", x, 3, 4);
        due.due("11 odds(3, 0)", x.odds(3, 0), BAD);
        due.due("11 odds(NONE, 0)", x.odds(NONE, 0), BAD);
        due.due("11 odds(0, 4)", x.odds(0, 4), BAD);
        due.due("11 odds(0, NONE)", x.odds(0, NONE), BAD);
        due.fraction("11 unchanged", x, 3, 4);
        Drawers.write(x, 0, 2, 5, 0, 0, 0, 0, 0, 0);
        int last = Drawers.write(x, 0, 2, 5, 0, 0, 0, 0, 0, 0);
        due.due("11 with 12 words", x.odds(2, 0), 1);
        x.write(last, 1);
        due.due("11 with 13 words", x.odds(2, 0), NO);
        due.due("11 with 13 words, bad gift", x.odds(2, 4), BAD);
    }

    /** Word 0 alone, 16, 22, 30 and 34 times for the four gifts; then twelve times of a pupil of no known gift. */
    private static void p11OddsOfManyLimbs() {
        PraiseDrawer x = Drawers.withWords(0, 1, 2, 3, 4, 5, 6);
        x.hand(NONE);
        int[] uses = {16, 22, 30, 34};
        java.math.BigInteger[] shares = new java.math.BigInteger[4];
        for (int gift = 0; gift < 4; gift++) {
            x.pupil(1, gift);
            int letter = NONE;
            for (int i = 0; i < uses[gift]; i++) {
                if (i % 8 == 0) letter = x.letter(0, gift, 0);
                x.write(letter, 0);
            }
        }
        x.pupil(1, NONE);
        Drawers.write(x, 0, 4, 1, 0, 0, 0, 0, 0, 0);
        Drawers.write(x, 0, 4, 2, 0, 0, 0, 0, 0, 0);
        java.math.BigInteger whole = java.math.BigInteger.ZERO;
        java.math.BigInteger below = java.math.BigInteger.ONE;
        for (int gift = 0; gift < 4; gift++) below = below.multiply(java.math.BigInteger.valueOf(7 + uses[gift]).pow(12));
        for (int gift = 0; gift < 4; gift++) {
            shares[gift] = java.math.BigInteger.valueOf(1 + uses[gift]).pow(12)
                    .multiply(below.divide(java.math.BigInteger.valueOf(7 + uses[gift]).pow(12)));
            whole = whole.add(shares[gift]);
        }
        due.due("11 of many limbs", x.odds(4, 3), 1);
        java.math.BigInteger common = shares[3].gcd(whole);
        limbs(x, 0, shares[3].divide(common));
        limbs(x, 1, whole.divide(common));
        due.holds("11 many limbs", x.sign(1) >= 7 && x.sign(2) >= 7);
        due.due("12 of many limbs", x.likeliest(4), 3);
    }

    /** One word alone means nothing: 233 by 233 cancels, and all gifts are alike. */
    private static void p11OddsOfGreatFactors() {
        PraiseDrawer x = Drawers.withWords(0);
        x.hand(NONE);
        x.pupil(1, 0);
        x.pupil(1, NONE);
        for (int i = 0; i < 29; i++) Drawers.write(x, 0, 0, 0, 0, 0, 0, 0, 0, 0, 0, 0);
        Drawers.write(x, 0, 1, 0, 0, 0);
        due.due("11 of great factors", x.odds(1, 0), 1);
        due.fraction("11 of great factors", x, 1, 4);
    }

    private static void limbs(PraiseDrawer x, int which, java.math.BigInteger number) {
        int size = (number.bitLength() + 29) / 30;
        due.due("30 limbs", x.sign(1 + which), size);
        for (int i = 0; i < size; i++) {
            due.due("31 limb " + i, x.limb(which, i), number.shiftRight(30 * i).intValue() & (1 << 30) - 1);
        }
        due.due("31 limb " + size, x.limb(which, size), NONE);
    }

    private static void p12Likeliest() {
        PraiseDrawer x = threeHands();
        due.due("12 word 1 is for others, the least of like ones", x.likeliest(1), 0);
        x.weight(2, 2);
        due.due("12 by weight", x.likeliest(1), 2);
        x.weight(2, 1);
        // Without his own letters nothing is known to anybody.
        due.due("12 as if his own were not known", x.likeliest(0), 0);
        x.pupil(1, NONE);
        Drawers.write(x, 0, 2, 9, 0);
        due.due("12 word 0 is for gift 1", x.likeliest(2), 1);
        due.due("12 likeliest(3)", x.likeliest(3), BAD);
        due.due("12 likeliest(NONE)", x.likeliest(NONE), BAD);
        Drawers.write(x, 0, 2, 9, 0, 0, 0, 0, 0, 0, 0, 0);
        int last = Drawers.write(x, 0, 2, 9, 0, 0, 0);
        due.due("12 with 12 words", x.likeliest(2), 1);
        x.write(last, 0);
        due.due("12 with 13 words", x.likeliest(2), NO);
        due.fraction("12 leaves the fraction", x, 0, 1);
    }

    private static void p13Says() {
        PraiseDrawer x = new PraiseDrawer();
        due.due("13 no hand", x.says(0), BAD);
        x.hand(NONE);
        due.due("13 no words", x.says(0), NO);
        due.due("13 bad before no", x.says(1), BAD);
        x.word(1, 0);
        x.word(2, 0);
        due.due("13 says nothing", x.says(0), 1);
        due.fraction("13 says nothing", x, 0, 1);
        x.pupil(1, 0);
        x.pupil(1, 3);
        Drawers.write(x, 0, 0, 0, 0, 0);
        Drawers.write(x, 0, 1, 0, 1);
        // Word 0: 3/4, 1/2, 1/2, 1/3. Word 1: 1/4, 1/2, 1/2, 2/3.
        due.due("13 says(0)", x.says(0), 1);
        due.fraction("13 says(0)", x, 5, 12);
        x.hand(0);
        Drawers.write(x, 1, 0, 0, 1, 1, 1);
        // Hand 1 with his kin: word 0: 3/7, 1/2, 1/2, 1/3; word 1: 4/7, 1/2, 1/2, 2/3.
        due.due("13 says(1)", x.says(1), 1);
        due.fraction("13 says(1)", x, 1, 6);
        due.due("13 says(NONE)", x.says(NONE), BAD);
        due.due("13 says(2)", x.says(2), BAD);
        due.fraction("13 unchanged", x, 1, 6);
    }

    private static void p14Year() {
        PraiseDrawer x = Drawers.withWords(0, 4, 9);
        x.hand(NONE);
        x.hand(0);
        x.pupil(1, NONE);
        Drawers.write(x, 0, 0, 0, 1, 2);
        Drawers.write(x, 1, 0, 0, 1, 1, 0);
        Drawers.write(x, 0, 0, 39, 0, 0);
        Drawers.write(x, 0, 0, 5);
        due.due("14 year(0, NONE)", x.year(0, NONE), 1);
        due.fraction("14 year(0, NONE)", x, 21, 5);
        due.due("14 year(0, 0)", x.year(0, 0), 1);
        due.fraction("14 year(0, 0)", x, 13, 2);
        due.due("14 not his kin's", x.year(0, 1), 1);
        due.fraction("14 not his kin's", x, 8, 3);
        due.due("14 year(39, NONE)", x.year(39, NONE), 1);
        due.fraction("14 all of rank 0", x, 0, 1);
        due.due("14 a letter without words", x.year(5, NONE), NO);
        due.due("14 not by him", x.year(39, 1), NO);
        due.due("14 year(40, NONE)", x.year(40, NONE), BAD);
        due.due("14 year(-1, NONE)", x.year(-1, NONE), BAD);
        due.due("14 year(0, 2)", x.year(0, 2), BAD);
        due.due("14 year(0, -2)", x.year(0, -2), BAD);
        due.due("14 bad before no", x.year(5, 2), BAD);
    }

    private static void p15AsIn() {
        PraiseDrawer x = Drawers.withWords(2, 4, 7, 9);
        x.hand(NONE);
        x.hand(NONE);
        x.pupil(1, NONE);
        Drawers.write(x, 0, 0, 1, 0, 1);
        Drawers.write(x, 1, 0, 1, 2);
        Drawers.write(x, 0, 0, 2, 1, 2, 2, 3, 3, 3);
        due.due("15 asIn(1, 1, 2)", x.asIn(1, 1, 2), 0);
        due.due("15 asIn(2, 1, 2)", x.asIn(2, 1, 2), 7);
        due.due("15 asIn(4, 1, 2)", x.asIn(4, 1, 2), 9);
        due.due("15 asIn(4, 2, 1)", x.asIn(4, 2, 1), 2);
        due.due("15 as much is enough", x.asIn(8, 2, 1), 4);
        due.due("15 asIn(9, 2, 1)", x.asIn(9, 2, 1), 7);
        due.due("15 in the same year", x.asIn(8, 1, 1), 7);
        due.due("15 no words in b", x.asIn(0, 1, 3), NO);
        due.due("15 no words in a", x.asIn(0, 3, 1), NO);
        due.due("15 asIn(10, 1, 2)", x.asIn(10, 1, 2), BAD);
        due.due("15 asIn(-1, 1, 2)", x.asIn(-1, 1, 2), BAD);
        due.due("15 asIn(0, 40, 2)", x.asIn(0, 40, 2), BAD);
        due.due("15 asIn(0, 1, -1)", x.asIn(0, 1, -1), BAD);
        due.due("15 bad before no", x.asIn(10, 5, 5), BAD);
    }

    /** Of gift 1: three letters of a he (two with word 0), two of a she (one with it); others of no matter. */
    private static PraiseDrawer fiveLetters() {
        PraiseDrawer x = Drawers.withWords(1, 2);
        x.hand(NONE);
        x.hand(NONE);
        x.pupil(1, 1);
        x.pupil(2, 1);
        x.pupil(1, NONE);
        x.pupil(2, 2);
        Drawers.write(x, 0, 0, 0, 0, 0);
        Drawers.write(x, 1, 0, 1, 1, 0);
        Drawers.write(x, 0, 0, 0);
        Drawers.write(x, 0, 1, 0, 1);
        Drawers.write(x, 0, 1, 3, 0);
        Drawers.write(x, 0, 2, 0, 0);
        Drawers.write(x, 0, 3, 0, 0);
        return x;
    }

    private static void p16About() {
        PraiseDrawer x = fiveLetters();
        int[] wants = {3, 2, 2, 1};
        for (int what = 0; what < 4; what++) due.due("16 about(0, 1, " + what + ")", x.about(0, 1, what), wants[what]);
        due.due("16 of another gift", x.about(0, 2, 0), 0);
        due.due("16 of another gift", x.about(0, 2, 3), 1);
        due.due("16 about(2, 1, 0)", x.about(2, 1, 0), BAD);
        due.due("16 about(NONE, 1, 0)", x.about(NONE, 1, 0), BAD);
        due.due("16 about(0, 4, 0)", x.about(0, 4, 0), BAD);
        due.due("16 not known is none", x.about(0, NONE, 0), BAD);
        due.due("16 about(0, 1, 4)", x.about(0, 1, 4), BAD);
        due.due("16 about(0, 1, -1)", x.about(0, 1, -1), BAD);
    }

    private static void p17Chance() {
        PraiseDrawer x = fiveLetters();
        // Of the 10 ways to choose 3 of 5, 7 have two or three of the three letters of a he.
        due.due("17 chance(0, 1, 0)", x.chance(0, 1, 0), 1);
        due.fraction("17 chance(0, 1, 0)", x, 7, 10);
        due.due("17 looked is 1 at most", x.chance(0, 1, 1), 1);
        due.fraction("17 looked is 1 at most", x, 1, 1);
        due.due("17 nothing there", x.chance(0, 0, 0), 1);
        due.fraction("17 nothing there", x, 1, 1);
        x.became(3, 1);
        x.became(2, 1);
        x.became(1, NONE);
        // Four of a he, three with word 0; one of a she with it: choose 4 of 5, 3 of a he at least: all.
        due.due("17 chance(0, 1, 0)", x.chance(0, 1, 0), 1);
        due.fraction("17 all of them", x, 1, 1);
        Drawers.write(x, 0, 3, 0);
        Drawers.write(x, 0, 3, 0);
        Drawers.write(x, 0, 3, 0, 1);
        x.became(0, NONE);
        // One of a he with word 0; four of a she, one with it: 2 of 5, the one of a he is in 4 of 10.
        due.due("17 chance(0, 1, 0)", x.chance(0, 1, 0), 1);
        due.fraction("17 chance(0, 1, 0)", x, 2, 5);
        due.due("17 chance(0, 1, 1)", x.chance(0, 1, 1), 1);
        due.fraction("17 two words", x, 4, 5);
        due.due("17 chance(2, 1, 0)", x.chance(2, 1, 0), BAD);
        due.due("17 chance(0, 4, 0)", x.chance(0, 4, 0), BAD);
        due.due("17 chance(0, NONE, 0)", x.chance(0, NONE, 0), BAD);
        due.due("17 chance(0, 1, 2)", x.chance(0, 1, 2), BAD);
        due.due("17 chance(0, 1, -1)", x.chance(0, 1, -1), BAD);
        due.fraction("17 unchanged", x, 4, 5);
        p17ChanceOfThirty();
    }

    private static void p17ChanceOfThirty() {
        PraiseDrawer x = Drawers.withWords(1);
        x.hand(NONE);
        x.pupil(1, 0);
        x.pupil(2, 0);
        for (int i = 0; i < 30; i++) {
            int letter = x.letter(0, i % 2, 0);
            if (i % 2 == 0) x.write(letter, 0);
        }
        due.due("17 one way of all", x.chance(0, 0, 0), 1);
        due.fraction("17 one way of all", x, 1, 155117520);
    }

    private static void p18Like() {
        PraiseDrawer x = Drawers.withWords(0, 1, 2, 3);
        x.hand(NONE);
        x.pupil(1, NONE);
        int a = Drawers.write(x, 0, 0, 0, 0, 1, 2, 3, 0, 1);
        int b = Drawers.write(x, 0, 0, 0, 1, 2, 0, 3, 0, 0, 1);
        int empty = Drawers.write(x, 0, 0, 0);
        due.due("18 run", x.like(a, b, 0), 2);
        due.due("18 like", x.like(a, b, 1), 5);
        due.due("18 run the other way", x.like(b, a, 0), 2);
        due.due("18 like the other way", x.like(b, a, 1), 5);
        due.due("18 no words", x.like(a, empty, 0), 0);
        due.due("18 no words", x.like(a, empty, 1), 0);
        int c = Drawers.write(x, 0, 0, 0, 3, 1, 2, 3);
        due.due("18 run of three", x.like(a, c, 0), 3);
        due.due("18 alike", x.like(a, a, 0), BAD);
        due.due("18 like(4, 0, 0)", x.like(4, 0, 0), BAD);
        due.due("18 like(0, NONE, 0)", x.like(0, NONE, 0), BAD);
        due.due("18 like(0, 1, 2)", x.like(0, 1, 2), BAD);
        due.due("18 like(0, 1, -1)", x.like(0, 1, -1), BAD);
        int e = Drawers.write(x, 0, 0, 0, 0, 1, 2, 3, 0, 1, 2, 3);
        int f = Drawers.write(x, 0, 0, 0, 0, 1, 2, 3, 0, 1, 2, 3);
        due.due("18 all eight", x.like(e, f, 0), 8);
        due.due("18 all eight", x.like(e, f, 1), 8);
    }

    private static void p19Left() {
        PraiseDrawer x = Drawers.withWords(0, 1, 2, 3);
        x.hand(NONE);
        x.hand(NONE);
        x.pupil(1, NONE);
        x.pupil(2, NONE);
        int told = Drawers.write(x, 0, 0, 9, 0, 1, 2, 3);
        Drawers.write(x, 1, 0, 1, 0, 1, 2, 3);
        Drawers.write(x, 0, 1, 9, 0, 1, 2, 3);
        Drawers.write(x, 0, 1, 10, 0, 1, 2, 3);
        due.due("19 another hand, the same year, later", x.left(told, 1), NONE);
        int two = Drawers.write(x, 0, 1, 8, 1, 2);
        due.due("19 left of 1", x.left(told, 1), two);
        due.due("19 left of 2", x.left(told, 2), two);
        due.due("19 left of 3", x.left(told, 3), NONE);
        Drawers.write(x, 0, 0, 0, 2, 3, 1);
        due.due("19 of like ones the least", x.left(told, 1), two);
        int three = Drawers.write(x, 0, 0, 2, 0, 1, 2);
        due.due("19 the longest", x.left(told, 1), three);
        due.due("19 left of 8", x.left(told, 8), NONE);
        due.due("19 left(-1, 1)", x.left(-1, 1), BAD);
        due.due("19 left(7, 1)", x.left(7, 1), BAD);
        due.due("19 left(0, 0)", x.left(0, 0), BAD);
        due.due("19 left(0, 9)", x.left(0, 9), BAD);
    }

    private static void p20Slip() {
        PraiseDrawer x = new PraiseDrawer();
        x.word(0, 0);
        x.word(0, 1);
        x.word(0, 2);
        x.hand(NONE);
        x.pupil(1, NONE);
        x.pupil(2, NONE);
        int he = Drawers.write(x, 0, 0, 0, 0, 1, 2, 2);
        int she = Drawers.write(x, 0, 1, 0, 2, 0, 0, 1, 2);
        int neither = Drawers.write(x, 0, 1, 0, 0, 2, 0);
        due.due("20 of a he", x.slip(he), 2);
        due.due("20 of a she", x.slip(she), 3);
        due.due("20 none", x.slip(neither), NONE);
        due.due("20 no words", x.slip(x.letter(0, 0, 0)), NONE);
        due.due("20 slip(4)", x.slip(4), BAD);
        due.due("20 slip(NONE)", x.slip(NONE), BAD);
    }

    private static void p21Said() {
        PraiseDrawer x = Drawers.withPupils(2);
        due.due("21 alike", x.said(0, 1, 1), BAD);
        due.due("21 said(1, 0, 1)", x.said(1, 0, 1), BAD);
        due.due("21 said(NONE, 0, 1)", x.said(NONE, 0, 1), BAD);
        due.due("21 said(0, 2, 1)", x.said(0, 2, 1), BAD);
        due.due("21 said(0, 0, 2)", x.said(0, 0, 2), BAD);
        due.due("21 said(0, NONE, 0)", x.said(0, NONE, 0), BAD);
        due.due("21 said(0, 0, NONE)", x.said(0, 0, NONE), BAD);
        for (int i = 1; i <= 40; i++) due.due("21 said(0, 0, 1)", x.said(0, 0, 1), i);
        due.due("21 a 41st", x.said(0, 1, 0), FULL);
        due.due("21 a bad 41st", x.said(0, 1, 1), BAD);
        due.due("21 count", x.count(4), 40);
        due.due("21 the 41st is not there", x.order(NONE), 0);
    }

    private static void due(PraiseDrawer x, String call, int against, int... row) {
        due.due(call + " against", x.order(NONE), against);
        for (int i = 0; i < row.length; i++) due.due(call + " place " + i, x.order(i), row[i]);
    }

    private static void p22Order() {
        PraiseDrawer x = Drawers.withPupils(4);
        due(x, "22 nothing said", 0, 0, 1, 2, 3);
        x.said(0, 3, 0);
        due(x, "22 the first as a row", 0, 1, 2, 3, 0);
        x.said(0, 0, 2);
        due(x, "22 a chain", 0, 1, 3, 0, 2);
        x.said(0, 2, 3);
        due(x, "22 a round", 1, 0, 1, 2, 3);
        x.said(0, 3, 0);
        due(x, "22 said twice", 1, 1, 2, 3, 0);
        x.said(0, 2, 1);
        due(x, "22 said of 2 and 1", 1, 2, 1, 3, 0);
        due.due("22 order(4)", x.order(4), -10);
        due.due("22 order(-2)", x.order(-2), -10);
        due.due("22 order(MOST)", x.order(MOST), -10);
        PraiseDrawer y = Drawers.withPupils(8);
        for (int i = 7; i > 0; i--) y.said(0, i, i - 1);
        due(y, "22 eight backwards", 0, 7, 6, 5, 4, 3, 2, 1, 0);
        y.said(0, 0, 7);
        due(y, "22 eight in a round", 1, 0, 7, 6, 5, 4, 3, 2, 1);
    }

    private static void p23Sure() {
        PraiseDrawer x = Drawers.withPupils(4);
        due.due("23 nothing said", x.sure(0, 1), 0);
        x.said(0, 3, 0);
        x.said(0, 0, 2);
        due.due("23 said", x.sure(3, 0), 1);
        due.due("23 the other way", x.sure(0, 3), 0);
        due.due("23 by another", x.sure(3, 2), 1);
        due.due("23 nothing of 1", x.sure(1, 2), 0);
        x.said(0, 2, 3);
        due.due("23 a round", x.sure(3, 0), 0);
        x.said(0, 3, 0);
        due.due("23 said twice", x.sure(3, 0), 1);
        due.due("23 not sure", x.sure(0, 2), 0);
        due.due("23 alike", x.sure(1, 1), BAD);
        due.due("23 sure(4, 0)", x.sure(4, 0), BAD);
        due.due("23 sure(0, 4)", x.sure(0, 4), BAD);
        due.due("23 sure(NONE, 0)", x.sure(NONE, 0), BAD);
        due.due("23 sure(0, NONE)", x.sure(0, NONE), BAD);
    }

    private static void p24Kin() {
        PraiseDrawer x = new PraiseDrawer();
        due.due("24 hands that are not there", x.kin(0, 63), 0);
        due.due("24 kin(0, 5)", x.kin(0, 5), 63);
        due.due("24 kin(5, 1)", x.kin(5, 1), 0);
        due.due("24 kin(6, 0)", x.kin(6, 0), BAD);
        due.due("24 kin(-1, 0)", x.kin(-1, 0), BAD);
        due.due("24 kin(0, 64)", x.kin(0, 64), BAD);
        due.due("24 kin(0, -1)", x.kin(0, -1), BAD);
        due.due("24 unchanged", x.kin(0, 0), 5);
    }

    private static void p25Dealt() {
        PraiseDrawer x = new PraiseDrawer();
        due.due("25 no letters", x.dealt(1, NONE), -10);
        x.hand(NONE);
        x.hand(0);
        x.pupil(1, NONE);
        for (int i = 0; i < 8; i++) x.letter(i % 2, 0, 0);
        due.due("25 all ways of six", x.dealt(0b11111100, NONE), 720);
        due.due("25 letter 2 in the first", x.dealt(0b11111100, 2), 0);
        due.due("25 letter 7 in the first", x.dealt(0b11111100, 7), 5);
        due.due("25 seven", x.dealt(0b1111111, NONE), -10);
        due.due("25 none told", x.dealt(0, NONE), -10);
        due.due("25 letter 8 is not there", x.dealt(1 << 8, NONE), -10);
        due.due("25 dealt(LEAST, NONE)", x.dealt(LEAST, NONE), -10);
        due.due("25 dealt(-1, NONE)", x.dealt(-1, NONE), -10);
        due.due("25 not dealt", x.dealt(0b101, 1), -10);
        due.due("25 not there", x.dealt(0b101, 8), -10);
        due.due("25 dealt(5, 32)", x.dealt(0b101, 32), -10);
        due.due("25 dealt(5, -2)", x.dealt(0b101, -2), -10);
        // Hand 0 (letters 0, 2, ..) can go to readers 0 and 1 alone, hand 1 to all but 0.
        for (int reader = 2; reader < 6; reader++) x.kin(reader, 1);
        x.kin(0, 2);
        due.due("25 one letter", x.dealt(1, NONE), 2);
        due.due("25 of kin", x.dealt(0b111, NONE), 8);
        due.due("25 of kin, letter 0", x.dealt(0b111, 0), 0);
        due.due("25 of kin, letter 1", x.dealt(0b111, 1), 2);
        due.due("25 of kin, letter 2", x.dealt(0b111, 2), 1);
        due.due("25 three of hand 0", x.dealt(0b10101, NONE), 0);
        due.due("25 no first", x.dealt(0b10101, 0), NONE);
        due.due("25 no first", x.dealt(0b10101, 4), NONE);
        for (int i = 8; i < 30; i++) x.letter(1, 0, 0);
        due.due("25 letter 29", x.dealt(1 << 29, 29), 1);
        due.due("25 letter 30", x.dealt(1 << 30, NONE), -10);
    }

    private static void p26Bounds() {
        PraiseDrawer x = new PraiseDrawer();
        due.due("26 bounds(10, 6, 3, 0)", x.bounds(10, 6, 3, 0), 1);
        due.fraction("26 bounds(10, 6, 3, 0)", x, 3, 10);
        due.due("26 bounds(10, 6, 3, 1)", x.bounds(10, 6, 3, 1), 1);
        due.fraction("26 bounds(10, 6, 3, 1)", x, 7, 10);
        due.due("26 nobody known", x.bounds(9999, 0, 0, 0), 1);
        due.fraction("26 nobody known", x, 0, 1);
        due.due("26 nobody known", x.bounds(9999, 0, 0, 1), 1);
        due.fraction("26 nobody known", x, 1, 1);
        due.due("26 all known", x.bounds(9999, 9999, 3333, 1), 1);
        due.fraction("26 all known", x, 1, 3);
        due.due("26 bounds(0, 0, 0, 0)", x.bounds(0, 0, 0, 0), BAD);
        due.due("26 bounds(10000, 0, 0, 0)", x.bounds(10000, 0, 0, 0), BAD);
        due.due("26 bounds(5, 6, 0, 0)", x.bounds(5, 6, 0, 0), BAD);
        due.due("26 bounds(5, 3, 4, 0)", x.bounds(5, 3, 4, 0), BAD);
        due.due("26 bounds(5, 3, -1, 0)", x.bounds(5, 3, -1, 0), BAD);
        due.due("26 bounds(5, -1, -1, 0)", x.bounds(5, -1, -1, 0), BAD);
        due.due("26 bounds(5, 3, 1, 2)", x.bounds(5, 3, 1, 2), BAD);
        due.due("26 bounds(5, 3, 1, -1)", x.bounds(5, 3, 1, -1), BAD);
        due.fraction("26 unchanged", x, 1, 3);
    }

    private static void p27Question() {
        PraiseDrawer x = new PraiseDrawer();
        due.due("27 the least", x.question(1, 0, 0, 0, 0), 0);
        due.due("27 the most", x.question(30, 100, 100, 100, 100), 1);
        due.due("27 no minutes", x.question(0, 0, 0, 0, 0), BAD);
        due.due("27 31 minutes", x.question(31, 0, 0, 0, 0), BAD);
        for (int i = 0; i < 4; i++) {
            int[] yes = {50, 50, 50, 50};
            yes[i] = 101;
            due.due("27 101 of 100", x.question(1, yes[0], yes[1], yes[2], yes[3]), BAD);
            yes[i] = -1;
            due.due("27 -1 of 100", x.question(1, yes[0], yes[1], yes[2], yes[3]), BAD);
        }
        for (int i = 2; i < 6; i++) due.due("27 question", x.question(5, 1, 2, 3, 4), i);
        due.due("27 a seventh", x.question(5, 1, 2, 3, 4), FULL);
        due.due("27 a bad seventh", x.question(5, 1, 2, 3, 101), BAD);
        due.due("27 count", x.count(5), 6);
    }

    private static void p28Tells() {
        PraiseDrawer x = new PraiseDrawer();
        x.weight(2, 3);
        due.due("28 nothing asked", x.tells(0), 1);
        due.fraction("28 nothing asked", x, 1, 2);
        x.question(1, 100, 100, 0, 0);
        x.question(1, 100, 0, 100, 0);
        x.question(1, 90, 40, 20, 10);
        due.due("28 tells(1)", x.tells(1), 1);
        due.fraction("28 tells(1)", x, 2, 3);
        due.due("28 tells(2)", x.tells(2), 1);
        due.fraction("28 tells(2)", x, 2, 3);
        due.due("28 tells(3)", x.tells(3), 1);
        due.fraction("28 all is told", x, 1, 1);
        // Yes: 90, 40, 3 times 20, 10; no: 10, 60, 3 times 80, 90: of 6 times 100.
        due.due("28 tells(4)", x.tells(4), 1);
        due.fraction("28 tells(4)", x, 11, 20);
        // Behind yes to 0: 90 and 60 of the first two; behind no: 3 times 20 and 3 times 80.
        due.due("28 tells(5)", x.tells(5), 1);
        due.fraction("28 tells(5)", x, 3, 4);
        due.due("28 tells(8)", x.tells(8), BAD);
        due.due("28 tells(-1)", x.tells(-1), BAD);
        due.fraction("28 unchanged", x, 3, 4);
        PraiseDrawer y = new PraiseDrawer();
        for (int gift = 0; gift < 4; gift++) y.weight(gift, 9);
        for (int i = 0; i < 6; i++) y.question(1, 99, 1, 1, 1);
        // The first is likelier than another behind three times yes at least; like odds behind three count once.
        due.due("28 tells(63)", y.tells(63), 1);
        long first = 0;
        long other = 0;
        for (int answers = 0; answers < 64; answers++) {
            int yes = Integer.bitCount(answers);
            long p = power(99, yes);
            long q = power(99, 6 - yes);
            if (p >= q) first += p; else other += q;
        }
        long below = 4 * power(100, 6);
        long common = java.math.BigInteger.valueOf(first + other).gcd(java.math.BigInteger.valueOf(below)).longValue();
        limbs(y, 0, java.math.BigInteger.valueOf((first + other) / common));
        limbs(y, 1, java.math.BigInteger.valueOf(below / common));
    }

    private static long power(long base, int times) {
        long product = 1;
        for (int i = 0; i < times; i++) product *= base;
        return product;
    }

    private static void p29Form() {
        PraiseDrawer x = new PraiseDrawer();
        due.due("29 no question", x.form(200), 0);
        x.question(10, 50, 50, 50, 50);
        due.due("29 a question that tells nothing", x.form(200), 0);
        x.question(10, 100, 100, 0, 0);
        x.question(10, 100, 100, 0, 0);
        due.due("29 too few minutes", x.form(9), 0);
        due.due("29 just enough, the least bits", x.form(10), 2);
        due.due("29 no more than tells", x.form(200), 2);
        x.question(9, 0, 0, 100, 100);
        due.due("29 fewer minutes", x.form(10), 8);
        x.question(20, 100, 0, 100, 0);
        due.due("29 one of them", x.form(28), 8);
        due.due("29 both", x.form(29), 24);
        due.due("29 form(201)", x.form(201), BAD);
        due.due("29 form(-1)", x.form(-1), BAD);
        due.fraction("29 leaves the fraction", x, 0, 1);
        x.question(3, 49, 50, 50, 50);
        due.due("29 a little is more than nothing", x.form(3), 32);
    }

    private static void p30Sign() {
        PraiseDrawer x = new PraiseDrawer();
        due.due("30 sign of 0", x.sign(0), 0);
        due.due("30 limbs of 0", x.sign(1), 0);
        due.due("30 limbs below", x.sign(2), 1);
        x.bounds(3, 3, 1, 0);
        due.due("30 sign", x.sign(0), 1);
        due.due("30 limbs above", x.sign(1), 1);
        due.due("30 limbs below", x.sign(2), 1);
        for (int i = 0; i < 6; i++) x.question(1, 99, 2, 3, 4);
        x.tells(63);
        due.due("30 limbs above of tells", x.sign(1), 2);
        due.due("30 limbs below of tells", x.sign(2), 2);
        due.due("30 sign(3)", x.sign(3), BAD);
        due.due("30 sign(-1)", x.sign(-1), BAD);
    }

    private static void p31Limb() {
        PraiseDrawer x = new PraiseDrawer();
        due.due("31 above 0", x.limb(0, 0), NONE);
        due.due("31 below 0", x.limb(1, 0), 1);
        due.due("31 limb(1, 1)", x.limb(1, 1), NONE);
        due.due("31 limb(1, MOST)", x.limb(1, MOST), NONE);
        due.due("31 limb(1, 16)", x.limb(1, 16), NONE);
        due.due("31 limb(0, -1)", x.limb(0, -1), BAD);
        due.due("31 limb(2, 0)", x.limb(2, 0), BAD);
        due.due("31 limb(-1, 0)", x.limb(-1, 0), BAD);
        x.bounds(9999, 5, 4, 0);
        due.due("31 limb(0, 0)", x.limb(0, 0), 4);
        due.due("31 limb(1, 0)", x.limb(1, 0), 9999);
        // All answer yes but one of a hundred of gift 3 to the last question: 100 and 1 of 4 times 100.
        for (int i = 0; i < 6; i++) x.question(1, 100, 100, 100, i == 5 ? 99 : 100);
        x.tells(63);
        due.due("31 in lowest terms", x.limb(1, 0), 400);
        due.due("31 in lowest terms", x.limb(0, 0), 101);
    }

    private static void p32Count() {
        PraiseDrawer x = Drawers.withWords(1, 2);
        x.hand(NONE);
        for (int i = 0; i < 3; i++) x.pupil(1, NONE);
        for (int i = 0; i < 4; i++) x.letter(0, 0, 0);
        for (int i = 0; i < 5; i++) x.said(0, 0, 1);
        for (int i = 0; i < 6; i++) x.question(1, 0, 0, 0, 0);
        int[] wants = {2, 1, 3, 4, 5, 6};
        for (int what = 0; what < 6; what++) due.due("32 count(" + what + ")", x.count(what), wants[what]);
        due.due("32 count(6)", x.count(6), BAD);
        due.due("32 count(-1)", x.count(-1), BAD);
        due.due("32 count(LEAST)", x.count(LEAST), BAD);
    }

    private static long hash(int... values) {
        long h = 479;
        for (int v : values) h = 31 * h + v;
        return h;
    }

    private static void p33Digest() {
        PraiseDrawer x = new PraiseDrawer();
        due.due("33 of nothing", x.digest(), hash(0, 0, 0, 0, 0, 0, 1, 1, 1, 1, 0, 0, 0, 0, 0, 0, 0, 0, 0, 1, 1));
        x.word(7, 2);
        x.word(3, 1);
        x.hand(NONE);
        x.hand(0);
        x.pupil(2, 3);
        x.pupil(1, NONE);
        Drawers.write(x, 1, 0, 12, 1, 0, 1);
        Drawers.write(x, 0, 1, 5);
        x.weight(1, 8);
        x.said(1, 0, 1);
        x.said(0, 0, 1);
        x.said(0, 1, 0);
        x.kin(4, 33);
        x.question(17, 1, 2, 3, 4);
        x.bounds(10, 6, 3, 1);
        due.due("33 of some of all", x.digest(), hash(2, 2, 2, 2, 3, 1, 7, 2, 3, 1, -1, 0, 2, 3, 1, -1,
                1, 0, 12, 3, 1, 0, 1, 0, 1, 5, 0, 1, 8, 1, 1, 1, 0, 1, 0, 0, 1, 0, 1, 0,
                0, 0, 0, 0, 33, 0, 17, 1, 2, 3, 4, 1, 1, 1, 1, 7, 10));
        due.due("33 changes nothing", x.digest(), x.digest());
    }

    private static void refusedChangesNothing() {
        PraiseDrawer x = threeHands();
        x.bounds(10, 6, 3, 1);
        long before = x.digest();
        x.word(10, 0);
        x.hand(3);
        x.pupil(0, 0);
        x.became(0, 4);
        x.letter(0, 0, 40);
        x.write(0, 2);
        x.weight(0, 0);
        x.means(0, 0, 4);
        x.odds(0, 4);
        x.says(3);
        x.year(9, NONE);
        x.chance(0, 1, 2);
        x.said(0, 0, 0);
        x.kin(0, 64);
        x.bounds(10, 6, 7, 0);
        x.question(0, 0, 0, 0, 0);
        x.tells(1);
        due.due("refused calls change nothing", x.digest(), before);
    }
}
