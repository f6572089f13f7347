/**
 * The edges that the document names for orders, deals, bounds and forms: a test of its own for each sentence,
 * whose words stand above it.
 */
public final class OrdersEdgesTest {
    private static final int NONE = -1, BAD = -2, FULL = -4, BAD_TEN = -10;
    private static Due due;

    public static void main(String[] args) {
        due = new Due("OrdersEdgesTest");
        fortySaid();
        betterThanAnother();
        orderOfNobody();
        orderOfOne();
        orderOfEight();
        orderOfLikeOnes();
        orderAgainstTheMost();
        orderOfARound();
        orderOfPupilsToldLater();
        sureOfNothingSaid();
        sureOfAsMuchEitherWay();
        sureByOthers();
        sureOfEight();
        kinOfReaders();
        kinToldAgain();
        kinOfHandsNotThere();
        dealtOneToSix();
        dealtLettersNotThere();
        dealtToNobody();
        dealtOneAtMost();
        dealtTheFirst();
        dealtToNoKinOfTheHandHimself();
        dealtTheLastLetter();
        boundsOfOne();
        boundsOfTheMost();
        boundsOutOfOrder();
        boundsAllOrNobodyKnown();
        sixQuestions();
        minutesOfAQuestion();
        yesOfAHundred();
        tellsOfNone();
        tellsOfQuestionsNotThere();
        tellsAllOrNothing();
        tellsOfSix();
        formOfNoQuestions();
        formOfNoMinutes();
        formOfJustEnoughMinutes();
        formOfAllMinutes();
        formOfLikeOnes();
        formOfLeastBitsNotFewest();
        formByWeights();
        due.end();
    }

    // "SAID: a HAND says a PUPIL is better than another one (40 in all)"; 21: "how many", "FULL: 40".
    private static void fortySaid() {
        PraiseDrawer x = Drawers.withPupils(8);
        x.hand(0);
        for (int i = 0; i < 40; i++) {
            due.due("said " + i, x.said(i % 2, i % 8, (i + 1) % 8), i + 1);
            due.due("all said", x.count(4), i + 1);
        }
        due.refused("a 41st", x, () -> x.said(0, 0, 1), FULL);
        due.refused("a 41st by another hand", x, () -> x.said(1, 7, 6), FULL);
        due.refused("a 41st of two alike: BAD ahead of FULL", x, () -> x.said(0, 1, 1), BAD);
        due.refused("a 41st by hand 2: BAD ahead of FULL", x, () -> x.said(2, 0, 1), BAD);
    }

    // 21: "BAD: alike, too."
    private static void betterThanAnother() {
        PraiseDrawer x = Drawers.withPupils(2);
        due.refused("alike", x, () -> x.said(0, 0, 0), BAD);
        due.refused("alike, and not there", x, () -> x.said(0, 2, 2), BAD);
        due.refused("better, not there", x, () -> x.said(0, 2, 0), BAD);
        due.refused("than, not there", x, () -> x.said(0, 0, 2), BAD);
        due.refused("better NONE", x, () -> x.said(0, NONE, 0), BAD);
        due.refused("than NONE", x, () -> x.said(0, 0, NONE), BAD);
        due.refused("hand 1", x, () -> x.said(1, 0, 1), BAD);
        due.refused("hand NONE", x, () -> x.said(NONE, 0, 1), BAD);
        due.due("one", x.said(0, 0, 1), 1);
        due.due("the same again", x.said(0, 0, 1), 2);
        due.due("and against it", x.said(0, 1, 0), 3);
    }

    // "THE ORDER of all PUPILS": there are none.
    private static void orderOfNobody() {
        PraiseDrawer x = new PraiseDrawer();
        due.due("against nothing", x.order(NONE), 0);
        due.refused("place 0 of none", x, () -> x.order(0), BAD_TEN);
        due.refused("place -2", x, () -> x.order(-2), BAD_TEN);
        due.refused("nobody is sure", x, () -> x.sure(0, 1), BAD);
    }

    // 22: "the PUPIL in place what (0 on). BAD: -10."
    private static void orderOfOne() {
        PraiseDrawer x = Drawers.withPupils(1);
        due.due("against nothing", x.order(NONE), 0);
        due.due("place 0", x.order(0), 0);
        due.refused("place 1 of one", x, () -> x.order(1), BAD_TEN);
        due.refused("the least number", x, () -> x.order(Integer.MIN_VALUE), BAD_TEN);
        due.refused("the greatest number", x, () -> x.order(Integer.MAX_VALUE), BAD_TEN);
        due.refused("one is ahead of nobody", x, () -> x.sure(0, 1), BAD);
    }

    private static void row(String call, PraiseDrawer x, int against, int... pupils) {
        due.due(call + ", against", x.order(NONE), against);
        for (int place = 0; place < pupils.length; place++) due.due(call + ", place " + place, x.order(place), pupils[place]);
    }

    // "the row, the best first": all eight.
    private static void orderOfEight() {
        PraiseDrawer x = Drawers.withPupils(8);
        row("nothing said", x, 0, 0, 1, 2, 3, 4, 5, 6, 7);
        for (int i = 0; i < 7; i++) x.said(0, i + 1, i);
        row("all the other way", x, 0, 7, 6, 5, 4, 3, 2, 1, 0);
        due.refused("place 8", x, () -> x.order(8), BAD_TEN);
    }

    // "of like ones the first as a row".
    private static void orderOfLikeOnes() {
        PraiseDrawer x = Drawers.withPupils(3);
        x.said(0, 2, 0);
        row("1 and 2 ahead of 0, or 2 and 0 behind 1", x, 0, 1, 2, 0);
        x.said(0, 0, 2);
        row("as much either way", x, 1, 0, 1, 2);
        x.said(0, 1, 0);
        row("1 ahead of 0", x, 1, 1, 0, 2);
    }

    // "AGAINST: how many": 20 of 40 and more there cannot be.
    private static void orderAgainstTheMost() {
        PraiseDrawer x = Drawers.withPupils(2);
        for (int i = 0; i < 19; i++) {
            x.said(0, 0, 1);
            row("one more said either way", x, i, 0, 1);
            x.said(0, 1, 0);
            row("as much said either way", x, i + 1, 0, 1);
        }
        x.said(0, 1, 0);
        row("19 against 20", x, 19, 1, 0);
        x.said(0, 0, 1);
        row("20 against 20", x, 20, 0, 1);
        PraiseDrawer y = Drawers.withPupils(2);
        for (int i = 0; i < 40; i++) y.said(0, 1, 0);
        row("none of 40", y, 0, 1, 0);
    }

    // "against which the fewest of what is SAID goes": a round is never all borne.
    private static void orderOfARound() {
        for (int pupils = 2; pupils <= 8; pupils++) {
            PraiseDrawer x = Drawers.withPupils(pupils);
            for (int i = 0; i < pupils; i++) x.said(0, i, (i + 1) % pupils);
            due.due("a round of " + pupils, x.order(NONE), 1);
            for (int i = 0; i < pupils; i++) due.due("a round of " + pupils, x.order(i), i);
            due.due("nothing sure in a round of " + pupils, x.sure(0, pupils - 1), 0);
            x.said(0, pupils - 1, 0);
            due.due("the last ahead of the first", x.order(NONE), 1);
            due.due("the last ahead of the first", x.sure(pupils - 1, 0), 1);
        }
    }

    // "of all PUPILS": told behind what was said, too.
    private static void orderOfPupilsToldLater() {
        PraiseDrawer x = Drawers.withPupils(2);
        x.said(0, 1, 0);
        row("two", x, 0, 1, 0);
        x.pupil(2, 3);
        row("three", x, 0, 1, 0, 2);
        x.said(0, 2, 1);
        row("the third first", x, 0, 2, 1, 0);
    }

    // "SURE: whether a is ahead of b in all rows with so few."
    private static void sureOfNothingSaid() {
        PraiseDrawer x = Drawers.withPupils(8);
        for (int a = 0; a < 8; a++) {
            for (int b = 0; b < 8; b++) {
                int one = a, other = b;
                if (a != b) due.due("nothing said", x.sure(a, b), 0);
                else due.refused("alike", x, () -> x.sure(one, other), BAD);
            }
        }
        due.refused("a not there", x, () -> x.sure(8, 0), BAD);
        due.refused("b not there", x, () -> x.sure(0, 8), BAD);
        due.refused("a NONE", x, () -> x.sure(NONE, 0), BAD);
        due.refused("b NONE", x, () -> x.sure(0, NONE), BAD);
    }

    // "in all rows with so few": as many either way.
    private static void sureOfAsMuchEitherWay() {
        PraiseDrawer x = Drawers.withPupils(2);
        x.said(0, 1, 0);
        due.due("said", x.sure(1, 0), 1);
        due.due("said the other way", x.sure(0, 1), 0);
        x.said(0, 0, 1);
        due.due("either way", x.sure(1, 0), 0);
        due.due("either way", x.sure(0, 1), 0);
        x.said(0, 0, 1);
        due.due("twice against once", x.sure(0, 1), 1);
    }

    // "a is ahead of b in all rows": by others between.
    private static void sureByOthers() {
        PraiseDrawer x = Drawers.withPupils(4);
        x.said(0, 3, 1);
        x.said(0, 1, 2);
        due.due("by one between", x.sure(3, 2), 1);
        due.due("0 may stand anywhere", x.sure(3, 0), 0);
        due.due("0 may stand anywhere", x.sure(0, 2), 0);
        x.said(0, 2, 3);
        due.due("a round", x.sure(3, 2), 0);
        due.due("a round", x.sure(3, 1), 0);
    }

    private static void sureOfEight() {
        PraiseDrawer x = Drawers.withPupils(8);
        for (int i = 0; i < 7; i++) x.said(0, i + 1, i);
        for (int a = 0; a < 8; a++) {
            for (int b = 0; b < 8; b++) if (a != b) due.due("in a chain of eight", x.sure(a, b), a > b ? 1 : 0);
        }
    }

    // "READERS 0 .. 5 may be kin of HANDS (bits; none at first)."
    private static void kinOfReaders() {
        PraiseDrawer x = new PraiseDrawer();
        for (int reader = 0; reader < 6; reader++) {
            int told = reader;
            due.due("none at first", x.kin(reader, 63), 0);
            due.due("all hands", x.kin(reader, 1 << reader), 63);
            due.refused("a seventh hand", x, () -> x.kin(told, 64), BAD);
            due.refused("bits below 0", x, () -> x.kin(told, -1), BAD);
            due.due("one hand", x.kin(reader, 0), 1 << reader);
        }
        due.refused("reader 6", x, () -> x.kin(6, 0), BAD);
        due.refused("reader -1", x, () -> x.kin(-1, 0), BAD);
    }

    // 24: "what was told": in the place of what was told before, not beside it.
    private static void kinToldAgain() {
        PraiseDrawer x = Drawers.withPupils(1);
        x.hand(NONE);
        x.letter(0, 0, 0);
        for (int reader = 0; reader < 6; reader++) x.kin(reader, 1);
        due.due("all are kin", x.dealt(1, NONE), 0);
        due.due("kin of the other hand now", x.kin(5, 2), 1);
        due.due("kin no more", x.dealt(1, NONE), 1);
        due.due("kin no more", x.dealt(1, 0), 5);
        due.due("it was 2", x.kin(5, 0), 2);
    }

    // "Kin of a READER (bits of HANDS 0 to 5)": of hands told later, too.
    private static void kinOfHandsNotThere() {
        PraiseDrawer x = Drawers.withPupils(1);
        due.due("hand 5 is not there", x.kin(0, 32), 0);
        for (int i = 1; i < 6; i++) x.hand(NONE);
        x.letter(5, 0, 0);
        due.due("now he is", x.dealt(1, NONE), 5);
        due.due("now he is", x.dealt(1, 0), 1);
    }

    // "LETTERS (told as bits, 1 to 6 of them)".
    private static void dealtOneToSix() {
        PraiseDrawer x = Drawers.withPupils(1);
        for (int i = 0; i < 7; i++) x.letter(0, 0, 0);
        int[] ways = {6, 30, 120, 360, 720, 720};
        for (int letters = 1; letters <= 6; letters++) {
            due.due(letters + " letters", x.dealt((1 << letters) - 1, NONE), ways[letters - 1]);
            for (int i = 0; i < letters; i++) due.due("the first way", x.dealt((1 << letters) - 1, i), i);
        }
        due.refused("no letter", x, () -> x.dealt(0, NONE), BAD_TEN);
        due.refused("seven letters", x, () -> x.dealt(127, NONE), BAD_TEN);
        due.refused("seven letters", x, () -> x.dealt(127, 0), BAD_TEN);
    }

    // 25: "BAD: -10: a LETTER that is not dealt, too."
    private static void dealtLettersNotThere() {
        PraiseDrawer x = new PraiseDrawer();
        due.refused("no letters", x, () -> x.dealt(1, NONE), BAD_TEN);
        PraiseDrawer y = Drawers.withPupils(1);
        for (int i = 0; i < 3; i++) y.letter(0, 0, 0);
        due.refused("letter 3", y, () -> y.dealt(8, NONE), BAD_TEN);
        due.refused("letter 3 beside others", y, () -> y.dealt(15, NONE), BAD_TEN);
        due.refused("bit 30", y, () -> y.dealt(1 << 30, NONE), BAD_TEN);
        due.refused("bit 31", y, () -> y.dealt(1 << 31, NONE), BAD_TEN);
        due.refused("bit 31 beside others", y, () -> y.dealt(1 << 31 | 3, NONE), BAD_TEN);
        due.refused("a letter that is not dealt", y, () -> y.dealt(5, 1), BAD_TEN);
        due.refused("a letter that is not there", y, () -> y.dealt(5, 3), BAD_TEN);
        due.refused("letter -2", y, () -> y.dealt(5, -2), BAD_TEN);
        due.refused("letter 32, whose shift is that of 0", y, () -> y.dealt(5, 32), BAD_TEN);
        due.refused("the greatest number", y, () -> y.dealt(5, Integer.MAX_VALUE), BAD_TEN);
        due.refused("the least number", y, () -> y.dealt(5, Integer.MIN_VALUE), BAD_TEN);
    }

    // "the first (..)": "(NONE: none)".
    private static void dealtToNobody() {
        PraiseDrawer x = Drawers.withPupils(1);
        for (int i = 0; i < 6; i++) x.letter(0, 0, 0);
        for (int reader = 1; reader < 6; reader++) x.kin(reader, 1);
        due.due("one letter to one reader", x.dealt(32, NONE), 1);
        due.due("one letter to one reader", x.dealt(32, 5), 0);
        due.due("two letters to one reader", x.dealt(33, NONE), 0);
        due.due("no first", x.dealt(33, 0), NONE);
        due.due("no first", x.dealt(33, 5), NONE);
        x.kin(0, 63);
        due.due("one letter to nobody", x.dealt(1, NONE), 0);
        due.due("no first", x.dealt(1, 0), NONE);
        due.due("six letters to nobody", x.dealt(63, NONE), 0);
        due.due("no first", x.dealt(63, 3), NONE);
        due.refused("not dealt: BAD, not NONE", x, () -> x.dealt(1, 1), BAD_TEN);
    }

    // "to each READER one at most".
    private static void dealtOneAtMost() {
        PraiseDrawer x = Drawers.withPupils(1);
        for (int i = 0; i < 6; i++) x.letter(0, 0, 0);
        for (int free = 6; free >= 0; free--) {
            for (int letters = 1; letters <= 6; letters++) {
                int ways = 1;
                for (int i = 0; i < letters; i++) ways *= Math.max(0, free - i);
                due.due(letters + " letters, " + free + " readers", x.dealt((1 << letters) - 1, NONE), ways);
            }
            if (free > 0) x.kin(free - 1, 1);
        }
    }

    // "the first (by LETTERS, READERS' numbers as a row)".
    private static void dealtTheFirst() {
        PraiseDrawer x = Drawers.withPupils(1);
        for (int i = 1; i < 6; i++) x.hand(NONE);
        for (int hand = 5; hand >= 0; hand--) x.letter(hand, 0, 0);
        // Letter i is by hand 5 less i: reader 0 is no kin of hand 0 alone, reader 1 of hands 0 and 1, and so on.
        for (int reader = 0; reader < 6; reader++) x.kin(reader, 63 & ~((2 << reader) - 1));
        due.due("one way alone", x.dealt(63, NONE), 1);
        for (int letter = 0; letter < 6; letter++) due.due("in that way", x.dealt(63, letter), 5 - letter);
        due.due("the last two letters", x.dealt(48, NONE), 25);
        due.due("0 is left to him who may have nothing else", x.dealt(48, 4), 1);
        due.due("0 is left to him who may have nothing else", x.dealt(48, 5), 0);
    }

    // "READERS who are no kin of their HAND": of the hand himself, not of his kin.
    private static void dealtToNoKinOfTheHandHimself() {
        PraiseDrawer x = Drawers.withPupils(1);
        x.hand(0);
        x.letter(1, 0, 0);
        for (int reader = 0; reader < 6; reader++) x.kin(reader, 1);
        due.due("kin of the hand's kin", x.dealt(1, NONE), 6);
        x.kin(0, 3);
        due.due("kin of both", x.dealt(1, 0), 1);
    }

    // "LETTERS 0 .. 29": the last bits.
    private static void dealtTheLastLetter() {
        PraiseDrawer x = Drawers.withPupils(1);
        for (int i = 0; i < 30; i++) x.letter(0, 0, 0);
        due.due("letter 29", x.dealt(1 << 29, NONE), 6);
        due.due("letter 29", x.dealt(1 << 29, 29), 0);
        due.due("the last six", x.dealt(63 << 24, NONE), 720);
        due.due("the last of the last six", x.dealt(63 << 24, 29), 5);
        due.due("the first and the last", x.dealt(1 << 29 | 1, 29), 1);
        due.refused("letter 30", x, () -> x.dealt(1 << 30, NONE), BAD_TEN);
        due.refused("letters 29 and 30", x, () -> x.dealt(3 << 29, NONE), BAD_TEN);
        due.refused("the greatest number", x, () -> x.dealt(Integer.MAX_VALUE, NONE), BAD_TEN);
        due.refused("all bits", x, () -> x.dealt(-1, NONE), BAD_TEN);
    }

    private static void bothBounds(int n, int k, int g, long least, long leastBy, long most, long mostBy) {
        PraiseDrawer x = new PraiseDrawer();
        String call = "bounds " + n + " " + k + " " + g;
        due.fraction(call + ", the least", x, x.bounds(n, k, g, 0), least, leastBy);
        due.fraction(call + ", the greatest", x, x.bounds(n, k, g, 1), most, mostBy);
    }

    // "n 1 .. 9999": one.
    private static void boundsOfOne() {
        bothBounds(1, 0, 0, 0, 1, 1, 1);
        bothBounds(1, 1, 0, 0, 1, 0, 1);
        bothBounds(1, 1, 1, 1, 1, 1, 1);
        PraiseDrawer x = new PraiseDrawer();
        due.refused("of none", x, () -> x.bounds(0, 0, 0, 0), BAD);
        due.refused("of -1", x, () -> x.bounds(-1, -1, -1, 0), BAD);
        due.refused("what 2", x, () -> x.bounds(1, 0, 0, 2), BAD);
        due.refused("what -1", x, () -> x.bounds(1, 0, 0, -1), BAD);
    }

    // "n 1 .. 9999": the most.
    private static void boundsOfTheMost() {
        bothBounds(9999, 9998, 1, 1, 9999, 2, 9999);
        bothBounds(9999, 1, 1, 1, 9999, 1, 1);
        bothBounds(9999, 1, 0, 0, 1, 9998, 9999);
        bothBounds(9999, 9999, 9999, 1, 1, 1, 1);
        bothBounds(9998, 9997, 1, 1, 9998, 1, 4999);
        PraiseDrawer x = new PraiseDrawer();
        due.refused("of 10000", x, () -> x.bounds(10000, 0, 0, 0), BAD);
        due.refused("of the greatest number", x, () -> x.bounds(Integer.MAX_VALUE, 0, 0, 0), BAD);
    }

    // "0 <= g <= k <= n".
    private static void boundsOutOfOrder() {
        PraiseDrawer x = new PraiseDrawer();
        x.bounds(3, 3, 2, 0);
        due.refused("g below 0", x, () -> x.bounds(10, 5, -1, 0), BAD);
        due.refused("g above k", x, () -> x.bounds(10, 5, 6, 0), BAD);
        due.refused("k above n", x, () -> x.bounds(10, 11, 5, 0), BAD);
        due.refused("k and g above n", x, () -> x.bounds(10, 11, 11, 1), BAD);
        due.refused("k below 0", x, () -> x.bounds(10, -1, 0, 0), BAD);
        due.refused("k and g below 0", x, () -> x.bounds(10, -1, -1, 1), BAD);
        due.fraction("refused bounds leave the fraction", x, 2, 3);
    }

    // "between g by n and (g and n less k) by n".
    private static void boundsAllOrNobodyKnown() {
        bothBounds(10, 10, 4, 2, 5, 2, 5);
        bothBounds(10, 0, 0, 0, 1, 1, 1);
        bothBounds(10, 4, 4, 2, 5, 1, 1);
        bothBounds(10, 4, 0, 0, 1, 3, 5);
    }

    // "QUESTIONS 0 .. 5, as they come"; 27: "FULL: 6".
    private static void sixQuestions() {
        PraiseDrawer x = new PraiseDrawer();
        for (int i = 0; i < 6; i++) {
            due.due("question " + i, x.question(30 - i, i, 100 - i, 50, 0), i);
            due.due("questions there", x.count(5), i + 1);
        }
        due.refused("a seventh", x, () -> x.question(1, 0, 0, 0, 0), FULL);
        due.refused("a seventh of 0 minutes: BAD ahead of FULL", x, () -> x.question(0, 0, 0, 0, 0), BAD);
        due.refused("a seventh of 101: BAD ahead of FULL", x, () -> x.question(1, 0, 0, 0, 101), BAD);
    }

    // "take minutes (1 .. 30)".
    private static void minutesOfAQuestion() {
        PraiseDrawer x = new PraiseDrawer();
        due.refused("0 minutes", x, () -> x.question(0, 100, 0, 0, 0), BAD);
        due.refused("31 minutes", x, () -> x.question(31, 100, 0, 0, 0), BAD);
        due.refused("-1 minutes", x, () -> x.question(-1, 100, 0, 0, 0), BAD);
        due.due("30 minutes", x.question(30, 100, 0, 0, 0), 0);
        due.due("too long for 29", x.form(29), 0);
        due.due("not for 30", x.form(30), 1);
        due.due("1 minute", x.question(1, 100, 0, 0, 0), 1);
        due.due("not for 1", x.form(1), 2);
    }

    // "are answered yes with so many of 100 for each GIFT".
    private static void yesOfAHundred() {
        for (int gift = 0; gift < 4; gift++) {
            PraiseDrawer x = new PraiseDrawer();
            int[] yes = new int[4];
            int[] wrong = {-1, 101, Integer.MIN_VALUE, Integer.MAX_VALUE};
            for (int w : wrong) {
                yes[gift] = w;
                due.refused(w + " of 100", x, () -> x.question(1, yes[0], yes[1], yes[2], yes[3]), BAD);
            }
            yes[gift] = 100;
            due.due("100 of 100", x.question(1, yes[0], yes[1], yes[2], yes[3]), 0);
            due.fraction("it tells this gift from the others", x, x.tells(1), 1, 2);
        }
    }

    // "TELLS of some (bits)": of none.
    private static void tellsOfNone() {
        PraiseDrawer x = new PraiseDrawer();
        due.fraction("no questions", x, x.tells(0), 1, 4);
        x.question(1, 100, 0, 0, 0);
        due.fraction("none asked", x, x.tells(0), 1, 4);
        x.weight(3, 9);
        due.fraction("the likeliest is guessed", x, x.tells(0), 3, 4);
        for (int gift = 0; gift < 3; gift++) x.weight(gift, 9);
        due.fraction("all weights at most", x, x.tells(0), 1, 4);
    }

    // 28: "BAD": bits of questions that are not there.
    private static void tellsOfQuestionsNotThere() {
        PraiseDrawer x = new PraiseDrawer();
        x.bounds(3, 3, 2, 0);
        for (int questions = 0; questions <= 6; questions++) {
            int behind = 1 << questions;
            due.refused("question " + questions, x, () -> x.tells(behind), BAD);
            due.refused("question 31", x, () -> x.tells(1 << 31), BAD);
            due.refused("all bits", x, () -> x.tells(-1), BAD);
            due.refused("the greatest number", x, () -> x.tells(Integer.MAX_VALUE), BAD);
            due.fraction("refused bits leave the fraction", x, 2, 3);
            if (questions < 6) x.question(1, 50, 50, 50, 50);
        }
        due.fraction("all that are there", x, x.tells(63), 1, 4);
    }

    // "yes with so many of 100": 0, 50 and 100.
    private static void tellsAllOrNothing() {
        PraiseDrawer x = new PraiseDrawer();
        x.question(1, 0, 0, 0, 0);
        x.question(1, 100, 100, 100, 100);
        x.question(1, 100, 100, 0, 0);
        x.question(1, 0, 100, 0, 100);
        due.fraction("always no", x, x.tells(1), 1, 4);
        due.fraction("always yes", x, x.tells(2), 1, 4);
        due.fraction("both", x, x.tells(3), 1, 4);
        due.fraction("half of the gifts", x, x.tells(4), 1, 2);
        due.fraction("the other half", x, x.tells(8), 1, 2);
        due.fraction("all gifts", x, x.tells(12), 1, 1);
        due.fraction("all gifts, with those that tell nothing", x, x.tells(15), 1, 1);
        x.weight(0, 9);
        due.fraction("9 and 1 of 12", x, x.tells(8), 5, 6);
    }

    // "QUESTIONS 0 .. 5": all six.
    private static void tellsOfSix() {
        PraiseDrawer x = new PraiseDrawer();
        for (int i = 0; i < 6; i++) x.question(1, 50, 100, 100, 100);
        // The first says yes six times in one of 64; only then is another guessed.
        due.fraction("one of 64", x, x.tells(63), 127, 256);
        due.fraction("one of 32", x, x.tells(62), 63, 128);
        for (int gift = 1; gift < 4; gift++) x.weight(gift, 9);
        due.fraction("with weights: 9 and 63 by 64, of 28", x, x.tells(63), 639, 1792);
    }

    // "BEST FORM": there are no questions.
    private static void formOfNoQuestions() {
        PraiseDrawer x = new PraiseDrawer();
        due.due("none in 0", x.form(0), 0);
        due.due("none in 200", x.form(200), 0);
        due.refused("in -1", x, () -> x.form(-1), BAD);
        due.refused("in 201", x, () -> x.form(201), BAD);
    }

    // "in so many minutes (0 .. 200)": none.
    private static void formOfNoMinutes() {
        PraiseDrawer x = new PraiseDrawer();
        x.bounds(3, 3, 2, 0);
        x.question(1, 100, 0, 0, 0);
        due.refused("in 0 minutes", x, () -> x.form(0), 0);
        due.refused("in 1 minute", x, () -> x.form(1), 1);
        due.fraction("forms leave the fraction", x, 2, 3);
        due.refused("in the least number", x, () -> x.form(Integer.MIN_VALUE), BAD);
        due.refused("in the greatest number", x, () -> x.form(Integer.MAX_VALUE), BAD);
    }

    // "in so many minutes": just as many, one fewer.
    private static void formOfJustEnoughMinutes() {
        PraiseDrawer x = new PraiseDrawer();
        x.question(7, 100, 100, 0, 0);
        x.question(8, 100, 0, 100, 0);
        due.due("in 6", x.form(6), 0);
        due.due("in 7", x.form(7), 1);
        due.due("in 14", x.form(14), 1);
        due.due("in 15", x.form(15), 3);
        due.due("in 200", x.form(200), 3);
    }

    // "minutes (0 .. 200)": more than all six take.
    private static void formOfAllMinutes() {
        PraiseDrawer x = new PraiseDrawer();
        for (int i = 0; i < 6; i++) x.question(30, 50, 100, 100, 100);
        for (int asked = 0; asked <= 6; asked++) {
            int minutes = 30 * asked;
            int best = (1 << asked) - 1;
            due.due("in " + minutes, x.form(minutes), best);
            if (asked > 0) due.due("in " + (minutes - 1), x.form(minutes - 1), best >> 1);
        }
        due.due("in 200", x.form(200), 63);
    }

    // "that TELL most, of like ones those of fewer minutes, then the least bits."
    private static void formOfLikeOnes() {
        PraiseDrawer x = new PraiseDrawer();
        x.question(5, 50, 50, 50, 50);
        due.due("what tells nothing is not asked", x.form(200), 0);
        x.question(9, 100, 0, 0, 0);
        x.question(9, 0, 100, 100, 100);
        due.due("of as many minutes the least bits", x.form(9), 2);
        due.due("twice the same is not asked", x.form(200), 2);
        x.question(8, 0, 0, 0, 100);
        due.due("of fewer minutes, though more bits", x.form(16), 8);
        due.due("both tell more", x.form(17), 10);
        x.question(17, 100, 100, 0, 50);
        x.question(16, 100, 0, 0, 50);
        due.due("of fewer minutes, or of the least bits", x.form(17), 10);
    }

    // "of like ones those of fewer minutes, then the least bits": not those of the fewest questions.
    private static void formOfLeastBitsNotFewest() {
        for (int minutes = 1; minutes <= 3; minutes++) {
            PraiseDrawer x = new PraiseDrawer();
            x.question(1, 50, 0, 0, 0);
            x.question(1, 0, 50, 0, 0);
            x.question(minutes, 100, 0, 0, 0);
            // One of the first two: 150 of 400; both: 5000, 5000 and 10000 of 40000; the third: 200 of 400.
            due.fraction("one of two", x, x.tells(1), 3, 8);
            due.fraction("both", x, x.tells(3), 1, 2);
            due.fraction("the third", x, x.tells(4), 1, 2);
            // The second and the third: 5000, 10000 and 10000 of 40000.
            due.fraction("the second and the third", x, x.tells(6), 5, 8);
            due.due("in two minutes, the third takes " + minutes, x.form(2), minutes == 1 ? 6 : 3);
            due.due("in three minutes, the third takes " + minutes, x.form(3), minutes == 3 ? 3 : 6);
            due.due("in one minute", x.form(1), minutes == 1 ? 4 : 1);
        }
    }

    // "GIFTS by WEIGHTS": a question that tells something may not be worth its minutes.
    private static void formByWeights() {
        PraiseDrawer x = new PraiseDrawer();
        x.question(1, 10, 90, 50, 50);
        due.due("with like weights", x.form(1), 1);
        x.weight(0, 9);
        // Yes: 90 of the first, 90 of the second; no: 810 of the first: 900 of 1200, as without.
        due.fraction("no more than nothing", x, x.tells(1), 3, 4);
        due.due("no more than nothing", x.form(1), 0);
        x.weight(0, 8);
        due.due("a little more", x.form(1), 1);
    }
}
