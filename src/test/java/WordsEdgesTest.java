/**
 * The edges that the document names for words, hands, pupils and letters: a test of its own for each sentence,
 * whose words stand above it.
 */
public final class WordsEdgesTest {
    private static final int NONE = -1, BAD = -2, NO = -3, FULL = -4, BAD_TEN = -10;
    private static Due due;

    public static void main(String[] args) {
        due = new Due("WordsEdgesTest");
        nothingIsThere();
        eightWords();
        ranks();
        ofWhom();
        sixHands();
        kinToldAhead();
        eightPupils();
        heOrShe();
        giftsKnownOrNot();
        whatTheGiftWas();
        thirtyLetters();
        letterByAHandOfAPupil();
        years();
        eightWordsInALetter();
        wordsOneBehindTheOther();
        usesCountTimes();
        usesOfKnownGifts();
        usesOfKin();
        meansOfNothingUsed();
        meansOfAllLetters();
        meansOfKin();
        meansOneByNoUses();
        weights();
        oddsWithoutWords();
        oddsAsIfNotKnown();
        oddsAsIfNotKnownToKin();
        oddsOfTwelveWords();
        oddsOfOthersWords();
        oddsOfTwelveLetters();
        likeliestOfLikeOnes();
        likeliestOfTwelveWords();
        saysNothing();
        saysWithoutWords();
        saysAtMost();
        saysOfKin();
        due.end();
    }

    /** A hand, a he of no known gift, and so many words of rank 0. */
    private static PraiseDrawer withWords(int words) {
        PraiseDrawer x = Drawers.withPupils(1);
        for (int i = 0; i < words; i++) x.word(0, 0);
        return x;
    }

    // 1, "A new object": "nothing is there".
    private static void nothingIsThere() {
        PraiseDrawer x = new PraiseDrawer();
        for (int what = 0; what < 6; what++) due.due("a new drawer's count " + what, x.count(what), 0);
        due.refused("a new drawer's hand", x, () -> x.says(0), BAD);
        due.refused("a new drawer's pupil", x, () -> x.likeliest(0), BAD);
        due.refused("a new drawer's letter", x, () -> x.slip(0), BAD);
        due.refused("a new drawer's word", x, () -> x.about(0, 0, 0), BAD);
        due.refused("a new drawer's year", x, () -> x.year(0, NONE), NO);
        due.refused("a new drawer's question", x, () -> x.tells(1), BAD);
        PraiseDrawer other = Drawers.full();
        due.due("another drawer is another", x.count(0), 0);
        due.holds("another drawer is another", other.digest() != x.digest());
    }

    // "WORDS 0 .. 7, as they come"; 2: "FULL: 8".
    private static void eightWords() {
        PraiseDrawer x = new PraiseDrawer();
        for (int i = 0; i < 8; i++) {
            due.due("word " + i, x.word(9 - i, i % 3), i);
            due.due("words there", x.count(0), i + 1);
        }
        due.refused("a ninth word", x, () -> x.word(0, 0), FULL);
        due.refused("a ninth word that is not as told", x, () -> x.word(10, 0), BAD);
        due.due("still eight", x.count(0), 8);
    }

    // "a RANK (0 .. 9)".
    private static void ranks() {
        for (int rank = 0; rank <= 9; rank++) {
            PraiseDrawer x = Drawers.withPupils(1);
            due.due("rank " + rank, x.word(rank, 0), 0);
            Drawers.write(x, 0, 0, 0, 0);
            due.fraction("rank " + rank, x, x.year(0, NONE), rank, 1);
        }
        PraiseDrawer x = new PraiseDrawer();
        due.refused("rank -1", x, () -> x.word(-1, 0), BAD);
        due.refused("rank 10", x, () -> x.word(10, 0), BAD);
    }

    // "of anybody (0), of a he (1), of a she (2)".
    private static void ofWhom() {
        for (int about = 0; about <= 2; about++) {
            for (int who = 1; who <= 2; who++) {
                PraiseDrawer x = new PraiseDrawer();
                x.word(5, about);
                x.hand(NONE);
                x.pupil(who, NONE);
                Drawers.write(x, 0, 0, 0, 0);
                due.due("a word of " + about + " of a pupil " + who, x.slip(0), about == 3 - who ? 0 : NONE);
            }
        }
        PraiseDrawer x = new PraiseDrawer();
        due.refused("a word of -1", x, () -> x.word(0, -1), BAD);
        due.refused("a word of 3", x, () -> x.word(0, 3), BAD);
    }

    // "HANDS 0 .. 5, as they come"; 3: "FULL: 6".
    private static void sixHands() {
        PraiseDrawer x = new PraiseDrawer();
        for (int i = 0; i < 6; i++) {
            due.due("hand " + i, x.hand(NONE), i);
            due.due("hands there", x.count(1), i + 1);
        }
        due.refused("a seventh hand", x, () -> x.hand(NONE), FULL);
        due.refused("a seventh hand with kin", x, () -> x.hand(5), FULL);
        due.refused("a seventh hand that is not as told", x, () -> x.hand(6), BAD);
    }

    // "a KIN: a HAND told ahead (NONE: none)".
    private static void kinToldAhead() {
        PraiseDrawer x = new PraiseDrawer();
        for (int i = 0; i < 6; i++) {
            int himself = i;
            due.refused("his own kin, " + i, x, () -> x.hand(himself), BAD);
            due.refused("kin not told yet, " + i, x, () -> x.hand(himself + 1), BAD);
            due.due("kin of the one ahead", x.hand(i - 1), i);
        }
        PraiseDrawer y = new PraiseDrawer();
        for (int i = 0; i < 6; i++) due.due("all kin of the first", y.hand(i == 0 ? NONE : 0), i);
        due.refused("kin -2", x, () -> x.hand(-2), BAD);
    }

    // "PUPILS 0 .. 7, as they come"; 4: "FULL: 8".
    private static void eightPupils() {
        PraiseDrawer x = new PraiseDrawer();
        for (int i = 0; i < 8; i++) {
            due.due("pupil " + i, x.pupil(1 + i % 2, i % 5 - 1), i);
            due.due("pupils there", x.count(2), i + 1);
        }
        due.refused("a ninth pupil", x, () -> x.pupil(1, NONE), FULL);
        due.refused("a ninth pupil that is not as told", x, () -> x.pupil(1, 4), BAD);
    }

    // "are a he (1) or a she (2)".
    private static void heOrShe() {
        PraiseDrawer x = new PraiseDrawer();
        due.refused("a pupil 0", x, () -> x.pupil(0, 0), BAD);
        due.refused("a pupil 3", x, () -> x.pupil(3, 0), BAD);
        due.due("a he", x.pupil(1, 0), 0);
        due.due("a she", x.pupil(2, 0), 1);
        x.hand(NONE);
        x.word(0, 0);
        Drawers.write(x, 0, 0, 0);
        due.due("letters of a he", x.about(0, 0, 0), 1);
        due.due("letters of a she", x.about(0, 0, 2), 0);
    }

    // "have a GIFT 0 .. 3, that is known or not (NONE)".
    private static void giftsKnownOrNot() {
        PraiseDrawer x = new PraiseDrawer();
        for (int gift = NONE; gift <= 3; gift++) due.due("gift " + gift, x.pupil(1, gift), gift + 1);
        for (int gift = NONE; gift <= 3; gift++) due.due("it was " + gift, x.became(gift + 1, 0), gift);
        due.refused("gift -2", x, () -> x.pupil(1, -2), BAD);
        due.refused("gift 4", x, () -> x.pupil(1, 4), BAD);
    }

    // 5: "The GIFT of a PUPIL (NONE: not known): what it was. BAD: -10."
    private static void whatTheGiftWas() {
        PraiseDrawer x = new PraiseDrawer();
        due.refused("no pupil became", x, () -> x.became(0, NONE), BAD_TEN);
        x.pupil(2, NONE);
        due.due("not known became 0", x.became(0, 0), NONE);
        due.due("0 became 3", x.became(0, 3), 0);
        due.due("3 became 3", x.became(0, 3), 3);
        due.due("3 became not known", x.became(0, NONE), 3);
        due.due("not known became not known", x.became(0, NONE), NONE);
        due.refused("became -2", x, () -> x.became(0, -2), BAD_TEN);
        due.refused("became 4", x, () -> x.became(0, 4), BAD_TEN);
        due.refused("pupil 1 became", x, () -> x.became(1, 0), BAD_TEN);
        due.refused("pupil NONE became", x, () -> x.became(NONE, 0), BAD_TEN);
    }

    // "LETTERS 0 .. 29, as they come"; 6: "FULL: 30".
    private static void thirtyLetters() {
        PraiseDrawer x = Drawers.withPupils(8);
        for (int i = 0; i < 30; i++) {
            due.due("letter " + i, x.letter(0, i % 8, 39 - i), i);
            due.due("letters there", x.count(3), i + 1);
        }
        due.refused("a 31st letter", x, () -> x.letter(0, 0, 0), FULL);
        due.refused("a 31st letter that is not as told", x, () -> x.letter(0, 0, 40), BAD);
        due.due("the last letter has its year", x.left(29, 1), NONE);
    }

    // "by a HAND of a PUPIL".
    private static void letterByAHandOfAPupil() {
        PraiseDrawer x = new PraiseDrawer();
        due.refused("nobody to write", x, () -> x.letter(0, 0, 0), BAD);
        x.pupil(1, 0);
        due.refused("no hand to write", x, () -> x.letter(0, 0, 0), BAD);
        x.hand(NONE);
        due.due("somebody to write", x.letter(0, 0, 0), 0);
        due.refused("by hand 1", x, () -> x.letter(1, 0, 0), BAD);
        due.refused("by hand NONE", x, () -> x.letter(NONE, 0, 0), BAD);
        due.refused("of pupil 1", x, () -> x.letter(0, 1, 0), BAD);
        due.refused("of pupil NONE", x, () -> x.letter(0, NONE, 0), BAD);
        PraiseDrawer y = new PraiseDrawer();
        y.hand(NONE);
        due.refused("nobody to write of", y, () -> y.letter(0, 0, 0), BAD);
    }

    // "in a YEAR (0 .. 39)".
    private static void years() {
        PraiseDrawer x = withWords(1);
        Drawers.write(x, 0, 0, 0, 0);
        Drawers.write(x, 0, 0, 39, 0);
        due.due("letters of both years", x.count(3), 2);
        due.due("year 0", x.year(0, NONE), 1);
        due.due("year 39", x.year(39, NONE), 1);
        due.refused("a letter of year -1", x, () -> x.letter(0, 0, -1), BAD);
        due.refused("a letter of year 40", x, () -> x.letter(0, 0, 40), BAD);
    }

    // "up to 8 WORDS"; 7: "how many", "FULL: 8".
    private static void eightWordsInALetter() {
        PraiseDrawer x = withWords(8);
        x.letter(0, 0, 0);
        x.letter(0, 0, 0);
        for (int i = 1; i <= 8; i++) due.due("word " + i + " of a letter", x.write(0, i - 1), i);
        due.refused("a ninth word of a letter", x, () -> x.write(0, 0), FULL);
        due.refused("a ninth word that is not there", x, () -> x.write(0, 8), BAD);
        due.due("the other letter is empty", x.write(1, 7), 1);
        due.refused("a letter that is not there", x, () -> x.write(2, 0), BAD);
        due.refused("word NONE", x, () -> x.write(1, NONE), BAD);
        due.refused("letter NONE", x, () -> x.write(NONE, 0), BAD);
    }

    // "one behind the other".
    private static void wordsOneBehindTheOther() {
        PraiseDrawer x = withWords(2);
        int one = Drawers.write(x, 0, 0, 0, 0, 1, 1);
        int two = Drawers.write(x, 0, 0, 0, 1, 1, 0);
        due.due("not in the same order", x.like(one, two, 0), 2);
        long digest = x.digest();
        PraiseDrawer y = withWords(2);
        Drawers.write(y, 0, 0, 0, 1, 1, 0);
        Drawers.write(y, 0, 0, 0, 0, 1, 1);
        due.holds("the order of words is kept", y.digest() != digest);
    }

    // "USES .. : how many times the WORD stands in his LETTERS".
    private static void usesCountTimes() {
        PraiseDrawer x = withWords(2);
        x.became(0, 3);
        due.due("no letter uses it", x.uses(0, 0, 3), 0);
        x.letter(0, 0, 0);
        due.due("a letter without words", x.uses(0, 0, 3), 0);
        x.write(0, 0);
        x.write(0, 0);
        due.due("twice in one letter", x.uses(0, 0, 3), 2);
        for (int i = 2; i < 8; i++) x.write(0, 0);
        for (int i = 8; i < 240; i++) {
            if (i % 8 == 0) x.letter(0, 0, 0);
            x.write(i / 8, 0);
            due.due("in so many places of letters", x.uses(0, 0, 3), i + 1);
        }
        due.due("in all places of all letters", x.uses(0, 0, 3), 240);
        due.due("the other word", x.uses(0, 1, 3), 0);
        for (int gift = 0; gift < 3; gift++) due.due("another gift", x.uses(0, 0, gift), 0);
    }

    // "of PUPILS of that GIFT (known)".
    private static void usesOfKnownGifts() {
        PraiseDrawer x = withWords(1);
        Drawers.write(x, 0, 0, 0, 0);
        for (int gift = 0; gift < 4; gift++) due.due("of no known gift", x.uses(0, 0, gift), 0);
        x.became(0, 2);
        due.due("now known", x.uses(0, 0, 2), 1);
        x.became(0, NONE);
        due.due("known no more", x.uses(0, 0, 2), 0);
        due.refused("uses for NONE", x, () -> x.uses(0, 0, NONE), BAD);
        due.refused("uses for 4", x, () -> x.uses(0, 0, 4), BAD);
    }

    // "and his KIN's likewise (not the KIN's KIN)".
    private static void usesOfKin() {
        PraiseDrawer x = withWords(1);
        x.became(0, 1);
        for (int i = 1; i < 6; i++) x.hand(i - 1);
        int[] own = {1, 2, 3, 4, 5, 6};
        for (int hand = 0; hand < 6; hand++) {
            int letter = x.letter(hand, 0, hand);
            for (int i = 0; i < own[hand]; i++) x.write(letter, 0);
        }
        for (int hand = 0; hand < 6; hand++) {
            due.due("his and his kin's, " + hand, x.uses(hand, 0, 1), own[hand] + (hand == 0 ? 0 : own[hand - 1]));
        }
    }

    // "MEANS .. : 1 and these USES, by how many WORDS there are".
    private static void meansOfNothingUsed() {
        PraiseDrawer x = withWords(0);
        due.refused("no words mean nothing", x, () -> x.means(0, 0, 0), BAD);
        for (int words = 1; words <= 8; words++) {
            x.word(0, 0);
            due.fraction("one of " + words, x, x.means(0, words - 1, 3), 1, words);
        }
    }

    // "and his USES of all WORDS for that GIFT".
    private static void meansOfAllLetters() {
        PraiseDrawer x = withWords(1);
        x.became(0, 0);
        for (int i = 0; i < 30; i++) Drawers.write(x, 0, 0, 0, 0, 0, 0, 0, 0, 0, 0, 0);
        due.fraction("the only word", x, x.means(0, 0, 0), 1, 1);
        for (int i = 1; i < 8; i++) x.word(0, 0);
        due.fraction("the only word used", x, x.means(0, 0, 0), 241, 248);
        due.fraction("a word not used", x, x.means(0, 7, 0), 1, 248);
        due.fraction("another gift", x, x.means(0, 0, 1), 1, 8);
    }

    // "(KIN's likewise)".
    private static void meansOfKin() {
        PraiseDrawer x = withWords(2);
        x.became(0, 0);
        x.hand(0);
        x.hand(1);
        Drawers.write(x, 0, 0, 0, 1, 1);
        due.fraction("all of it his kin's", x, x.means(1, 1, 0), 3, 4);
        due.fraction("a word his kin does not use", x, x.means(1, 0, 0), 1, 4);
        due.fraction("nothing of his kin's kin", x, x.means(2, 1, 0), 1, 2);
    }

    // "a fraction": "lowest terms".
    private static void meansOneByNoUses() {
        PraiseDrawer x = withWords(4);
        x.became(0, 2);
        Drawers.write(x, 0, 0, 0, 0, 0, 0, 1);
        due.fraction("4 of 8", x, x.means(0, 0, 2), 1, 2);
        due.fraction("2 of 8", x, x.means(0, 1, 2), 1, 4);
        due.refused("means for 4", x, () -> x.means(0, 0, 4), BAD);
        due.refused("means for NONE", x, () -> x.means(0, 0, NONE), BAD);
    }

    // "WEIGHT of the GIFT (1 .. 9; 1 at first)"; 8: "what it was".
    private static void weights() {
        PraiseDrawer x = new PraiseDrawer();
        for (int gift = 0; gift < 4; gift++) {
            int told = gift;
            due.due("1 at first", x.weight(gift, 9), 1);
            due.due("it was 9", x.weight(gift, 1), 9);
            due.refused("weight 0", x, () -> x.weight(told, 0), BAD);
            due.refused("weight 10", x, () -> x.weight(told, 10), BAD);
            due.due("still 1", x.weight(gift, 1), 1);
        }
        due.refused("weight of gift 4", x, () -> x.weight(4, 1), BAD);
        due.refused("weight of gift NONE", x, () -> x.weight(NONE, 1), BAD);
    }

    // "ODDS .. : WEIGHT of the GIFT .. times, for each WORD of each LETTER of him": none.
    private static void oddsWithoutWords() {
        PraiseDrawer x = Drawers.withPupils(1);
        due.fraction("no words, no letters", x, x.odds(0, 0), 1, 4);
        x.letter(0, 0, 0);
        due.fraction("a letter without words", x, x.odds(0, 3), 1, 4);
        x.weight(3, 9);
        due.fraction("by weights alone", x, x.odds(0, 3), 3, 4);
        due.fraction("by weights alone", x, x.odds(0, 0), 1, 12);
        for (int gift = 0; gift < 3; gift++) x.weight(gift, 9);
        due.fraction("all weights at most", x, x.odds(0, 1), 1, 4);
    }

    // "(as if his own GIFT were not known)".
    private static void oddsAsIfNotKnown() {
        PraiseDrawer x = withWords(2);
        x.pupil(1, 1);
        Drawers.write(x, 0, 0, 0, 0);
        Drawers.write(x, 0, 0, 1, 0);
        Drawers.write(x, 0, 1, 2, 0, 0);
        // Word 0 twice for gift 1: 3 of 4; 1 of 2 for the others. Twice of pupil 0: 9 by 16 to 1 by 4 each.
        for (int gift = NONE; gift <= 3; gift++) {
            x.became(0, gift);
            due.fraction("his own gift is " + gift, x, x.odds(0, 1), 3, 7);
            due.fraction("his own gift is " + gift, x, x.odds(0, 0), 4, 21);
            due.due("his own gift is " + gift, x.likeliest(0), 1);
        }
    }

    // "(as if his own GIFT were not known)": his letters by kin are left out, too.
    private static void oddsAsIfNotKnownToKin() {
        PraiseDrawer x = withWords(2);
        x.hand(0);
        x.became(0, 3);
        Drawers.write(x, 0, 0, 0, 0, 0, 0);
        Drawers.write(x, 1, 0, 0, 1);
        for (int gift = 0; gift < 4; gift++) due.fraction("nothing else is known", x, x.odds(0, gift), 1, 4);
        x.pupil(2, 3);
        Drawers.write(x, 0, 1, 0, 1);
        // Of another pupil: word 0 is 1 of 3 and word 1 is 2 of 3 for gift 3: 2 by 81 to 1 by 16 each.
        due.fraction("the other pupil's letter", x, x.odds(0, 3), 32, 275);
    }

    // "(Above 12 WORDS of him: NO.)"
    private static void oddsOfTwelveWords() {
        PraiseDrawer x = withWords(1);
        Drawers.write(x, 0, 0, 0, 0, 0, 0, 0, 0, 0, 0, 0);
        int last = Drawers.write(x, 0, 0, 0, 0, 0, 0);
        due.fraction("11 words", x, x.odds(0, 0), 1, 4);
        x.write(last, 0);
        due.fraction("12 words", x, x.odds(0, 0), 1, 4);
        x.bounds(3, 3, 2, 0);
        x.write(last, 0);
        due.refused("13 words", x, () -> x.odds(0, 0), NO);
        due.fraction("13 words leave the fraction", x, 2, 3);
        due.refused("13 words, gift 4: BAD ahead of NO", x, () -> x.odds(0, 4), BAD);
        due.refused("13 words, gift NONE: BAD ahead of NO", x, () -> x.odds(0, NONE), BAD);
        due.refused("odds of pupil 1", x, () -> x.odds(1, 0), BAD);
    }

    // "(Above 12 WORDS of him: NO.)": of nobody else.
    private static void oddsOfOthersWords() {
        PraiseDrawer x = withWords(1);
        x.pupil(1, NONE);
        for (int i = 0; i < 2; i++) Drawers.write(x, 0, 0, 0, 0, 0, 0, 0, 0, 0, 0, 0);
        due.refused("16 words of the one", x, () -> x.odds(0, 0), NO);
        due.fraction("none of the other", x, x.odds(1, 0), 1, 4);
        due.due("none of the other", x.likeliest(1), 0);
    }

    // "each LETTER of him": as many letters as there are words, and letters without any.
    private static void oddsOfTwelveLetters() {
        PraiseDrawer x = withWords(1);
        x.hand(NONE);
        for (int i = 0; i < 29; i++) Drawers.write(x, i % 2, 0, i, i < 12 ? new int[] {0} : new int[0]);
        due.fraction("12 words in 29 letters", x, x.odds(0, 2), 1, 4);
        Drawers.write(x, 1, 0, 0, 0);
        due.refused("13 words in 30 letters by two hands", x, () -> x.odds(0, 2), NO);
    }

    // "LIKELIEST: the GIFT with the greatest ODDS, of like ones the least."
    private static void likeliestOfLikeOnes() {
        for (int bits = 1; bits < 16; bits++) {
            PraiseDrawer x = Drawers.withPupils(1);
            for (int gift = 0; gift < 4; gift++) x.weight(gift, (bits >> gift & 1) == 1 ? 9 : 8);
            due.due("greatest of " + bits, x.likeliest(0), Integer.numberOfTrailingZeros(bits));
        }
        PraiseDrawer x = withWords(2);
        x.pupil(1, 2);
        Drawers.write(x, 0, 1, 0, 0);
        Drawers.write(x, 0, 0, 0, 0);
        // Word 0 is 2 of 3 for gift 2 and 1 of 2 for the others: 3 times 2 by 3 is 4 times 1 by 2.
        x.weight(2, 3);
        x.weight(3, 4);
        due.due("like ones by unlike ways", x.likeliest(0), 2);
        x.weight(1, 4);
        due.due("the least of three", x.likeliest(0), 1);
    }

    // 12: "BAD; NO."
    private static void likeliestOfTwelveWords() {
        PraiseDrawer x = withWords(1);
        Drawers.write(x, 0, 0, 0, 0, 0, 0, 0, 0, 0, 0, 0);
        int last = Drawers.write(x, 0, 0, 0, 0, 0, 0, 0);
        due.refused("likeliest by 12 words", x, () -> x.likeliest(0), 0);
        x.write(last, 0);
        due.refused("likeliest by 13 words", x, () -> x.likeliest(0), NO);
        due.refused("likeliest of pupil 1", x, () -> x.likeliest(1), BAD);
        due.refused("likeliest of pupil NONE", x, () -> x.likeliest(NONE), BAD);
    }

    // "SAYS .. : the greatest less the least": alike for all gifts.
    private static void saysNothing() {
        PraiseDrawer x = withWords(1);
        x.bounds(3, 3, 2, 0);
        due.fraction("no letters", x, x.says(0), 0, 1);
        x.became(0, 1);
        Drawers.write(x, 0, 0, 0, 0, 0, 0);
        x.bounds(3, 3, 2, 0);
        due.fraction("one word alone says nothing", x, x.says(0), 0, 1);
        x.word(0, 0);
        due.fraction("4 of 5 less 1 of 2", x, x.says(0), 3, 10);
        x.became(0, NONE);
        due.fraction("of no known gift", x, x.says(0), 0, 1);
        for (int gift = 1; gift < 4; gift++) x.pupil(1, gift);
        x.became(0, 0);
        for (int pupil = 1; pupil < 4; pupil++) Drawers.write(x, 0, pupil, 0, 0, 0, 0);
        due.fraction("the same of all gifts", x, x.says(0), 0, 1);
    }

    // 13: "NO: there are no WORDS."
    private static void saysWithoutWords() {
        PraiseDrawer x = Drawers.withPupils(1);
        x.letter(0, 0, 0);
        x.bounds(3, 3, 2, 0);
        due.refused("no words", x, () -> x.says(0), NO);
        due.fraction("no words leave the fraction", x, 2, 3);
        due.refused("no words, hand 1: BAD ahead of NO", x, () -> x.says(1), BAD);
        due.refused("no words, hand NONE: BAD ahead of NO", x, () -> x.says(NONE), BAD);
    }

    // "over all WORDS the greatest": of the first word, of the last, of all letters.
    private static void saysAtMost() {
        for (int word = 0; word < 8; word++) {
            PraiseDrawer x = withWords(8);
            x.became(0, 3);
            for (int i = 0; i < 30; i++) Drawers.write(x, 0, 0, 0, word, word, word, word, word, word, word, word);
            due.fraction("241 of 248 less 1 of 8, word " + word, x, x.says(0), 105, 124);
        }
        PraiseDrawer x = withWords(8);
        x.became(0, 0);
        x.pupil(1, 3);
        for (int i = 0; i < 30; i++) {
            int word = i % 2;
            Drawers.write(x, 0, word, 0, word, word, word, word, word, word, word, word);
        }
        due.fraction("121 of 128 less 1 of 128", x, x.says(0), 15, 16);
    }

    // "what it MEANS": with his kin's uses, not the kin's kin's.
    private static void saysOfKin() {
        PraiseDrawer x = withWords(2);
        x.became(0, 0);
        x.hand(0);
        x.hand(1);
        Drawers.write(x, 0, 0, 0, 1, 1, 1, 1);
        due.fraction("he himself", x, x.says(0), 1, 3);
        due.fraction("by his kin alone", x, x.says(1), 1, 3);
        due.fraction("not by his kin's kin", x, x.says(2), 0, 1);
    }
}
