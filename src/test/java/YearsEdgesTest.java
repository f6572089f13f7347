/**
 * The edges that the document names for years, words and letters held side by side: a test of its own for each
 * sentence, whose words stand above it.
 */
public final class YearsEdgesTest {
    private static final int NONE = -1, BAD = -2, NO = -3;
    private static final int[] NO_WORDS = {};
    private static Due due;

    public static void main(String[] args) {
        due = new Due("YearsEdgesTest");
        yearOfAllHandsOrOne();
        yearWithoutWords();
        firstAndLastYear();
        asInWithoutWords();
        asInLeastRank();
        asInGreatestRank();
        asInLikeShares();
        asInItself();
        asInOfManyWords();
        aboutNothing();
        aboutKnownGifts();
        aboutLettersNotTimes();
        aboutAllLetters();
        chanceOfNoLetters();
        chanceOfAllLetters();
        chanceOfOneKind();
        chanceOfAsManyAtLeast();
        chanceOfThirty();
        lookedOneAtMost();
        lookedOfEachWord();
        runOfNothing();
        runOfAllWords();
        runAtTheEnds();
        likeInOrder();
        likeItself();
        leftOfEarlierYears();
        leftOfTheSameHand();
        leftOfLikeOnes();
        leftBelowSoMany();
        leftOfNoRun();
        leftOfTheLastLetter();
        slipInFirstAndLastPlace();
        noSlip();
        due.end();
    }

    /** Words of ranks 0 to 7, two hands and a he of no known gift. */
    private static PraiseDrawer withRanks() {
        PraiseDrawer x = Drawers.withPupils(1);
        x.hand(NONE);
        for (int rank = 0; rank < 8; rank++) x.word(rank, 0);
        return x;
    }

    // "YEAR: the mean RANK of all WORDS of LETTERS of a YEAR (of all HANDS, or one)".
    private static void yearOfAllHandsOrOne() {
        PraiseDrawer x = withRanks();
        x.hand(0);
        Drawers.write(x, 0, 0, 7, 1, 1, 4);
        Drawers.write(x, 2, 0, 7, 7);
        due.fraction("of all", x, x.year(7, NONE), 13, 4);
        due.fraction("of hand 0", x, x.year(7, 0), 2, 1);
        due.fraction("of hand 2, without his kin", x, x.year(7, 2), 7, 1);
        due.refused("of hand 1, who wrote nothing", x, () -> x.year(7, 1), NO);
        due.refused("of hand 3, who is not there", x, () -> x.year(7, 3), BAD);
        due.refused("of hand -2", x, () -> x.year(7, -2), BAD);
    }

    // 14: "NO: no WORDS."
    private static void yearWithoutWords() {
        PraiseDrawer x = withRanks();
        x.bounds(3, 3, 2, 0);
        due.refused("no letters", x, () -> x.year(5, NONE), NO);
        x.letter(0, 0, 5);
        due.refused("a letter without words", x, () -> x.year(5, NONE), NO);
        Drawers.write(x, 0, 0, 4, 3);
        Drawers.write(x, 0, 0, 6, 3);
        due.refused("words of other years", x, () -> x.year(5, NONE), NO);
        due.fraction("no words leave the fraction", x, 2, 3);
        due.refused("no words, hand 2: BAD ahead of NO", x, () -> x.year(5, 2), BAD);
        x.write(0, 0);
        due.fraction("a word of rank 0", x, x.year(5, NONE), 0, 1);
    }

    // "a YEAR (0 .. 39)".
    private static void firstAndLastYear() {
        PraiseDrawer x = withRanks();
        Drawers.write(x, 0, 0, 0, 2);
        Drawers.write(x, 0, 0, 39, 5);
        due.fraction("year 0", x, x.year(0, 0), 2, 1);
        due.fraction("year 39", x, x.year(39, 0), 5, 1);
        due.refused("year -1", x, () -> x.year(-1, NONE), BAD);
        due.refused("year 40", x, () -> x.year(40, NONE), BAD);
        due.due("as in the last", x.asIn(2, 0, 39), 5);
        due.due("as in the first", x.asIn(5, 39, 0), 2);
        due.refused("as in -1", x, () -> x.asIn(2, 0, -1), BAD);
        due.refused("as in 40", x, () -> x.asIn(2, 0, 40), BAD);
        due.refused("from -1", x, () -> x.asIn(2, -1, 0), BAD);
        due.refused("from 40", x, () -> x.asIn(2, 40, 0), BAD);
    }

    // "(No WORDS in one of both: NO.)"
    private static void asInWithoutWords() {
        PraiseDrawer x = withRanks();
        x.letter(0, 0, 1);
        x.letter(0, 0, 2);
        due.refused("in neither", x, () -> x.asIn(0, 1, 2), NO);
        x.write(0, 0);
        due.refused("in a alone", x, () -> x.asIn(9, 1, 2), NO);
        due.refused("in b alone", x, () -> x.asIn(0, 2, 1), NO);
        due.refused("in no year twice", x, () -> x.asIn(0, 2, 2), NO);
        due.refused("rank 10: BAD ahead of NO", x, () -> x.asIn(10, 1, 2), BAD);
        due.refused("rank -1: BAD ahead of NO", x, () -> x.asIn(-1, 1, 2), BAD);
        x.write(1, 0);
        due.due("in both", x.asIn(0, 1, 2), 0);
    }

    // "the least RANK x (0 .. 9)": no share at all.
    private static void asInLeastRank() {
        PraiseDrawer x = withRanks();
        Drawers.write(x, 0, 0, 1, 5);
        Drawers.write(x, 0, 0, 2, 7);
        for (int rank = 0; rank < 5; rank++) due.due("nothing up to " + rank, x.asIn(rank, 1, 2), 0);
        for (int rank = 5; rank <= 9; rank++) due.due("all up to " + rank, x.asIn(rank, 1, 2), 7);
    }

    // "the least RANK x (0 .. 9)": all of both.
    private static void asInGreatestRank() {
        PraiseDrawer x = Drawers.withWords(0, 9);
        x.hand(NONE);
        x.pupil(1, NONE);
        Drawers.write(x, 0, 0, 1, 0);
        Drawers.write(x, 0, 0, 2, 1);
        due.due("rank 0 is in 2", x.asIn(0, 1, 2), 9);
        due.due("rank 9 is in 2", x.asIn(9, 1, 2), 9);
        due.due("rank 9 is in 1", x.asIn(9, 2, 1), 0);
        due.due("rank 8 is in 1", x.asIn(8, 2, 1), 0);
        due.due("rank 9 is in 2 itself", x.asIn(9, 2, 2), 9);
    }

    // "is no less than that of a's".
    private static void asInLikeShares() {
        PraiseDrawer x = withRanks();
        Drawers.write(x, 0, 0, 1, 0, 1, 2);
        Drawers.write(x, 1, 0, 2, 3, 4, 4, 5, 6, 7);
        due.due("1 of 6 is below 1 of 3, 3 of 6 is not", x.asIn(0, 1, 2), 4);
        due.due("2 of 3 is 4 of 6", x.asIn(1, 1, 2), 5);
        due.due("3 of 3 is 6 of 6", x.asIn(2, 1, 2), 7);
        due.due("1 of 6 is below 1 of 3", x.asIn(3, 2, 1), 0);
        due.due("3 of 6 is above 1 of 3", x.asIn(4, 2, 1), 1);
        due.due("4 of 6 is 2 of 3", x.asIn(5, 2, 1), 1);
        due.due("5 of 6 is above 2 of 3", x.asIn(6, 2, 1), 2);
    }

    // "a RANK r in YEAR a is in YEAR b": the same year.
    private static void asInItself() {
        PraiseDrawer x = withRanks();
        Drawers.write(x, 0, 0, 3, 2, 4, 4);
        int[] wants = {0, 0, 2, 2, 4, 4, 4, 4, 4, 4};
        for (int rank = 0; rank <= 9; rank++) due.due("rank " + rank + " in its own year", x.asIn(rank, 3, 3), wants[rank]);
    }

    // "of b's WORDS": 232 of them, against 8.
    private static void asInOfManyWords() {
        PraiseDrawer x = withRanks();
        Drawers.write(x, 0, 0, 0, 0, 1, 2, 3, 4, 5, 6, 7);
        for (int i = 0; i < 29; i++) Drawers.write(x, i % 2, 0, 1, 0, 1, 2, 3, 4, 5, 6, 7);
        for (int rank = 0; rank <= 9; rank++) {
            due.due("as in many", x.asIn(rank, 0, 1), Math.min(rank, 7));
            due.due("as in few", x.asIn(rank, 1, 0), Math.min(rank, 7));
        }
    }

    // "ABOUT: of a WORD, among LETTERS": none.
    private static void aboutNothing() {
        PraiseDrawer x = withRanks();
        x.became(0, 0);
        for (int what = 0; what < 4; what++) due.due("no letters", x.about(0, 0, what), 0);
        x.letter(0, 0, 0);
        due.due("a letter without words", x.about(0, 0, 0), 1);
        due.due("it has no word", x.about(0, 0, 1), 0);
        due.refused("what -1", x, () -> x.about(0, 0, -1), BAD);
        due.refused("what 4", x, () -> x.about(0, 0, 4), BAD);
        due.refused("word 8", x, () -> x.about(8, 0, 0), BAD);
        due.refused("word NONE", x, () -> x.about(NONE, 0, 0), BAD);
    }

    // "of PUPILS of a GIFT (known)".
    private static void aboutKnownGifts() {
        PraiseDrawer x = withRanks();
        x.pupil(2, 3);
        Drawers.write(x, 0, 0, 0, 0);
        Drawers.write(x, 0, 1, 0, 0);
        due.due("his gift is not known", x.about(0, 3, 0), 0);
        due.due("hers is", x.about(0, 3, 2), 1);
        x.became(0, 3);
        x.became(1, NONE);
        due.due("now his is", x.about(0, 3, 1), 1);
        due.due("hers is not", x.about(0, 3, 3), 0);
        due.refused("gift NONE", x, () -> x.about(0, NONE, 0), BAD);
        due.refused("gift 4", x, () -> x.about(0, 4, 0), BAD);
    }

    // "how many of these have the WORD".
    private static void aboutLettersNotTimes() {
        PraiseDrawer x = withRanks();
        x.became(0, 1);
        Drawers.write(x, 0, 0, 0, 3, 3, 3);
        Drawers.write(x, 0, 0, 0, 0, 1, 2, 4, 5, 6, 7, 3);
        Drawers.write(x, 1, 0, 0, 0, 1, 2, 4, 5, 6, 7, 4);
        due.due("letters", x.about(3, 1, 0), 3);
        due.due("thrice in one, once in the last place", x.about(3, 1, 1), 2);
    }

    // "those of a he .. those of a she likewise": all thirty.
    private static void aboutAllLetters() {
        for (int who = 1; who <= 2; who++) {
            PraiseDrawer x = new PraiseDrawer();
            x.word(0, 0);
            x.hand(NONE);
            x.pupil(who, 0);
            for (int letters = 1; letters <= 30; letters++) {
                Drawers.write(x, 0, 0, 0, 0);
                for (int what = 0; what < 4; what++) {
                    due.due(letters + " of " + who, x.about(0, 0, what), what / 2 == who - 1 ? letters : 0);
                }
            }
            due.fraction("no other way", x, x.chance(0, 0, 0), 1, 1);
        }
    }

    /** Of gift 0: so many letters of a he, so many with word 0; of a she likewise; and so many words. */
    private static PraiseDrawer heAndShe(int words, int he, int heWith, int she, int sheWith) {
        PraiseDrawer x = new PraiseDrawer();
        for (int i = 0; i < words; i++) x.word(0, 0);
        x.hand(NONE);
        x.pupil(1, 0);
        x.pupil(2, 0);
        for (int i = 0; i < he; i++) Drawers.write(x, 0, 0, 0, i < heWith ? new int[] {0} : NO_WORDS);
        for (int i = 0; i < she; i++) Drawers.write(x, 0, 1, 0, i < sheWith ? new int[] {0} : NO_WORDS);
        return x;
    }

    // "CHANCE: of all ways to choose so many LETTERS": no letters, none with the word.
    private static void chanceOfNoLetters() {
        PraiseDrawer none = heAndShe(1, 0, 0, 0, 0);
        due.fraction("no letters", none, none.chance(0, 0, 0), 1, 1);
        due.fraction("no letters, looked", none, none.chance(0, 0, 1), 1, 1);
        PraiseDrawer without = heAndShe(1, 3, 0, 2, 0);
        due.fraction("none with the word", without, without.chance(0, 0, 0), 1, 1);
        due.refused("gift 4", without, () -> without.chance(0, 4, 0), BAD);
        due.refused("gift NONE", without, () -> without.chance(0, NONE, 0), BAD);
        due.refused("word 1", without, () -> without.chance(1, 0, 0), BAD);
        due.refused("what 2", without, () -> without.chance(0, 0, 2), BAD);
        due.refused("what -1", without, () -> without.chance(0, 0, -1), BAD);
    }

    // "so many LETTERS (as have the WORD) of all these": all have it.
    private static void chanceOfAllLetters() {
        PraiseDrawer x = heAndShe(1, 15, 15, 15, 15);
        due.fraction("all with the word", x, x.chance(0, 0, 0), 1, 1);
        PraiseDrawer but = heAndShe(1, 15, 15, 15, 14);
        due.fraction("all but one of a she", but, but.chance(0, 0, 0), 1, 2);
        PraiseDrawer he = heAndShe(1, 15, 14, 15, 15);
        due.fraction("all but one of a he", he, he.chance(0, 0, 0), 1, 1);
    }

    // "of all these": there are letters of a he alone, of a she alone.
    private static void chanceOfOneKind() {
        PraiseDrawer he = heAndShe(1, 5, 2, 0, 0);
        due.fraction("of a he alone", he, he.chance(0, 0, 0), 1, 1);
        PraiseDrawer she = heAndShe(1, 0, 0, 5, 2);
        due.fraction("of a she alone", she, she.chance(0, 0, 0), 1, 1);
    }

    // "in how many as many at least are of a he as are".
    private static void chanceOfAsManyAtLeast() {
        PraiseDrawer none = heAndShe(1, 3, 0, 3, 2);
        due.fraction("none of a he: all ways", none, none.chance(0, 0, 0), 1, 1);
        PraiseDrawer one = heAndShe(1, 3, 1, 3, 1);
        due.fraction("one or two of a he: 9 and 3 of 15", one, one.chance(0, 0, 0), 4, 5);
        PraiseDrawer two = heAndShe(1, 3, 2, 3, 0);
        due.fraction("both of a he: 3 of 15", two, two.chance(0, 0, 0), 1, 5);
        PraiseDrawer more = heAndShe(1, 2, 1, 4, 3);
        due.fraction("one or two of a he, no more are there: 8 and 6 of 15", more, more.chance(0, 0, 0), 14, 15);
    }

    // "LETTERS 0 .. 29": the most ways that there can be.
    private static void chanceOfThirty() {
        PraiseDrawer least = heAndShe(8, 15, 15, 15, 0);
        due.fraction("one way of all", least, least.chance(0, 0, 0), 1, 155117520);
        due.fraction("one way of all, looked for 8 words", least, least.chance(0, 0, 1), 1, 19389690);
        PraiseDrawer most = heAndShe(8, 15, 0, 15, 15);
        due.fraction("all ways", most, most.chance(0, 0, 0), 1, 1);
        due.fraction("all ways, looked for 8 words", most, most.chance(0, 0, 1), 1, 1);
        PraiseDrawer butOne = heAndShe(8, 15, 1, 15, 14);
        due.fraction("all ways but one", butOne, butOne.chance(0, 0, 0), 155117519, 155117520);
    }

    // "LOOKED: it times how many WORDS there are, 1 at most."
    private static void lookedOneAtMost() {
        for (int words = 1; words <= 8; words++) {
            PraiseDrawer x = heAndShe(words, 3, 2, 3, 0);
            due.fraction("a chance of 1 by 5, " + words + " words", x, x.chance(0, 0, 1), words < 5 ? words : 1, words < 5 ? 5 : 1);
        }
    }

    // "LOOKED: it times how many WORDS there are": whichever word it is of.
    private static void lookedOfEachWord() {
        PraiseDrawer x = heAndShe(8, 6, 0, 6, 0);
        for (int word = 0; word < 8; word++) {
            for (int letter = 0; letter < 3; letter++) x.write(letter, word);
        }
        for (int word = 0; word < 8; word++) {
            due.fraction("all three of a he, 20 of 220 ways, word " + word, x, x.chance(word, 0, 0), 1, 11);
            due.fraction("eight times it, word " + word, x, x.chance(word, 0, 1), 8, 11);
        }
    }

    // "RUN of two LETTERS", "LIKE": no words.
    private static void runOfNothing() {
        PraiseDrawer x = withRanks();
        int full = Drawers.write(x, 0, 0, 0, 0, 1, 2, 3, 0, 1, 2, 3);
        int empty = x.letter(0, 0, 0);
        int alsoEmpty = x.letter(0, 0, 0);
        int other = Drawers.write(x, 0, 0, 0, 4, 5, 6, 7);
        for (int what = 0; what < 2; what++) {
            due.due("both without words", x.like(empty, alsoEmpty, what), 0);
            due.due("one without words", x.like(full, empty, what), 0);
            due.due("the other without words", x.like(empty, full, what), 0);
            due.due("no word in both", x.like(full, other, what), 0);
        }
    }

    // "the most WORDS one behind the other that stand alike in both": all eight; one alone.
    private static void runOfAllWords() {
        PraiseDrawer x = withRanks();
        int one = Drawers.write(x, 0, 0, 0, 0, 1, 2, 3, 4, 5, 6, 7);
        int same = Drawers.write(x, 1, 0, 9, 0, 1, 2, 3, 4, 5, 6, 7);
        int back = Drawers.write(x, 1, 0, 9, 7, 6, 5, 4, 3, 2, 1, 0);
        int ones = Drawers.write(x, 1, 0, 9, 3, 3, 3, 3, 3, 3, 3, 3);
        int fewer = Drawers.write(x, 1, 0, 9, 3, 3, 3);
        for (int what = 0; what < 2; what++) {
            due.due("all eight", x.like(one, same, what), 8);
            due.due("the other way round", x.like(one, back, what), 1);
            due.due("once is once", x.like(one, ones, what), 1);
            due.due("as many as the shorter has", x.like(ones, fewer, what), 3);
            due.due("as many as the shorter has", x.like(fewer, ones, what), 3);
        }
    }

    // "one behind the other": first in one, last in the other.
    private static void runAtTheEnds() {
        PraiseDrawer x = withRanks();
        int first = Drawers.write(x, 0, 0, 0, 5, 6, 7, 0, 1, 2, 3, 4);
        int last = Drawers.write(x, 0, 0, 0, 0, 0, 0, 0, 0, 5, 6, 7);
        int short1 = Drawers.write(x, 0, 0, 0, 7);
        due.due("first in one, last in the other", x.like(first, last, 0), 3);
        due.due("last in one, first in the other", x.like(last, first, 0), 3);
        due.due("with others between", x.like(first, last, 1), 3);
        due.due("a letter of one word", x.like(short1, last, 0), 1);
        due.due("a letter of one word", x.like(first, short1, 1), 1);
    }

    // "LIKE: the most WORDS that stand in both in the same order, with others between."
    private static void likeInOrder() {
        PraiseDrawer x = withRanks();
        int one = Drawers.write(x, 0, 0, 0, 0, 7, 1, 7, 2, 7, 3, 7);
        int two = Drawers.write(x, 0, 0, 0, 6, 0, 6, 1, 6, 2, 6, 3);
        int turned = Drawers.write(x, 0, 0, 0, 3, 0, 1, 2);
        due.due("none of them one behind the other", x.like(one, two, 0), 1);
        due.due("all four in order", x.like(one, two, 1), 4);
        due.due("three in order", x.like(one, turned, 1), 3);
        due.due("three in order", x.like(turned, two, 1), 3);
    }

    // 18: "BAD: alike, too."
    private static void likeItself() {
        PraiseDrawer x = withRanks();
        due.refused("no letters", x, () -> x.like(0, 1, 0), BAD);
        Drawers.write(x, 0, 0, 0, 1);
        due.refused("one letter alone", x, () -> x.like(0, 1, 0), BAD);
        due.refused("alike", x, () -> x.like(0, 0, 0), BAD);
        due.refused("alike", x, () -> x.like(0, 0, 1), BAD);
        Drawers.write(x, 0, 0, 0, 1);
        due.due("two of the same words are not alike", x.like(0, 1, 0), 1);
        due.refused("letter 2", x, () -> x.like(0, 2, 0), BAD);
        due.refused("letter NONE", x, () -> x.like(NONE, 0, 0), BAD);
        due.refused("what 2", x, () -> x.like(0, 1, 2), BAD);
        due.refused("what -1", x, () -> x.like(0, 1, -1), BAD);
    }

    // "LEFT: of a LETTER, of all by the same HAND in earlier YEARS".
    private static void leftOfEarlierYears() {
        PraiseDrawer x = withRanks();
        int told = Drawers.write(x, 0, 0, 1, 0, 1);
        Drawers.write(x, 0, 0, 1, 0, 1);
        Drawers.write(x, 0, 0, 2, 0, 1);
        due.due("of the same year and of a later one", x.left(told, 1), NONE);
        int earlier = Drawers.write(x, 0, 0, 0, 0, 1);
        due.due("of an earlier year, told later", x.left(told, 1), earlier);
        due.due("nothing is earlier than year 0", x.left(earlier, 1), NONE);
        int last = Drawers.write(x, 0, 0, 39, 0, 1);
        due.due("of year 39, the least of all", x.left(last, 2), told);
    }

    // "by the same HAND": nobody else's, no kin's.
    private static void leftOfTheSameHand() {
        PraiseDrawer x = withRanks();
        x.hand(0);
        Drawers.write(x, 0, 0, 0, 3, 4, 5);
        int kins = Drawers.write(x, 2, 0, 5, 3, 4, 5);
        due.due("his kin wrote it", x.left(kins, 1), NONE);
        int others = Drawers.write(x, 1, 0, 5, 3, 4, 5);
        due.due("another hand wrote it", x.left(others, 1), NONE);
        x.pupil(2, 0);
        int own = Drawers.write(x, 0, 1, 5, 3, 4, 5);
        due.due("he himself wrote it, of another pupil", x.left(own, 3), 0);
    }

    // "that with the longest RUN, of like ones the least".
    private static void leftOfLikeOnes() {
        PraiseDrawer x = withRanks();
        int told = Drawers.write(x, 0, 0, 9, 0, 1, 2, 3);
        int later = Drawers.write(x, 0, 0, 8, 2, 3);
        Drawers.write(x, 0, 0, 0, 0, 1);
        due.due("the least number, not the earliest year", x.left(told, 2), later);
        int longer = Drawers.write(x, 0, 0, 7, 1, 2, 3);
        due.due("a longer one", x.left(told, 1), longer);
        Drawers.write(x, 0, 0, 6, 0, 1, 2);
        due.due("of two longer ones the least", x.left(told, 1), longer);
        Drawers.write(x, 0, 0, 6, 0, 4, 1, 4, 2, 4, 3);
        due.due("words with others between are no run", x.left(told, 1), longer);
    }

    // "none, if that RUN is below so many (told, 1 .. 8)".
    private static void leftBelowSoMany() {
        PraiseDrawer x = withRanks();
        for (int run = 1; run <= 8; run++) {
            int before = x.letter(1, 0, 2 * run);
            int told = x.letter(1, 0, 2 * run + 1);
            for (int i = 0; i < run; i++) {
                x.write(before, i);
                x.write(told, i);
            }
            due.due("as many as " + run, x.left(told, run), before);
            if (run < 8) due.due("one more than " + run, x.left(told, run + 1), NONE);
        }
        due.refused("below 0 words", x, () -> x.left(0, 0), BAD);
        due.refused("below 9 words", x, () -> x.left(0, 9), BAD);
        due.refused("below -1 words", x, () -> x.left(0, -1), BAD);
        due.refused("letter 16", x, () -> x.left(16, 1), BAD);
        due.refused("letter NONE", x, () -> x.left(NONE, 1), BAD);
    }

    // "none": no earlier letter has any of its words, or it has none.
    private static void leftOfNoRun() {
        PraiseDrawer x = withRanks();
        Drawers.write(x, 0, 0, 0, 0, 1, 2);
        int other = Drawers.write(x, 0, 0, 1, 5);
        int empty = x.letter(0, 0, 2);
        due.due("a run of 0 words", x.left(other, 1), NONE);
        due.due("a letter without words", x.left(empty, 1), NONE);
    }

    // "LETTERS 0 .. 29": the last one may be of the earliest year, and of the latest.
    private static void leftOfTheLastLetter() {
        PraiseDrawer x = withRanks();
        for (int i = 0; i < 29; i++) Drawers.write(x, 0, 0, 1 + i, i < 8 ? new int[] {i} : NO_WORDS);
        int last = Drawers.write(x, 0, 0, 0, 5, 6, 7);
        due.due("the last letter", last, 29);
        for (int letter = 5; letter < 8; letter++) due.due("left of the last letter " + letter, x.left(letter, 1), last);
        due.due("nothing left of it", x.left(4, 1), NONE);
        due.due("nothing is earlier", x.left(last, 1), NONE);
        PraiseDrawer y = withRanks();
        for (int i = 0; i < 29; i++) Drawers.write(y, 0, 0, 38, i == 28 ? new int[] {2, 3} : NO_WORDS);
        due.due("left of the last but one", y.left(Drawers.write(y, 0, 0, 39, 2, 3), 2), 28);
    }

    /** A word of anybody, of a he, of a she; a he and a she. */
    private static PraiseDrawer withWordsOf() {
        PraiseDrawer x = new PraiseDrawer();
        for (int about = 0; about <= 2; about++) x.word(0, about);
        x.hand(NONE);
        x.pupil(1, NONE);
        x.pupil(2, NONE);
        return x;
    }

    // "SLIP: the first place of a WORD that is of a she in a LETTER of a he, or the other way."
    private static void slipInFirstAndLastPlace() {
        for (int pupil = 0; pupil < 2; pupil++) {
            PraiseDrawer x = withWordsOf();
            int right = 1 + pupil, wrong = 2 - pupil;
            for (int place = 0; place < 8; place++) {
                int letter = x.letter(0, pupil, 0);
                for (int i = 0; i < place; i++) x.write(letter, i % 2 == 0 ? right : 0);
                due.due("no slip in " + place + " words", x.slip(letter), NONE);
                x.write(letter, wrong);
                for (int i = place + 1; i < 8; i++) x.write(letter, i % 2 == 0 ? wrong : right);
                due.due("the first slip in place " + place, x.slip(letter), place);
            }
        }
    }

    // 20: "SLIP. NONE. BAD."
    private static void noSlip() {
        PraiseDrawer x = withWordsOf();
        due.refused("no letters", x, () -> x.slip(0), BAD);
        x.letter(0, 0, 0);
        due.due("no words", x.slip(0), NONE);
        for (int i = 0; i < 8; i++) x.write(0, i % 2);
        due.due("eight words of anybody and of a he", x.slip(0), NONE);
        due.refused("letter 1", x, () -> x.slip(1), BAD);
        due.refused("letter NONE", x, () -> x.slip(NONE), BAD);
    }
}
