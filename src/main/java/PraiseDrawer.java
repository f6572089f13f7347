import java.util.Arrays;

/**
 * Letters that praise: a drawer of letters by hands who each mean something else by the same word.
 *
 * The face looks at every number that it is told before it hands it on, so the classes inside
 * may take theirs as looked at. All rows are made once, with the object: no call makes another.
 */
public final class PraiseDrawer {
    public static final int NONE = -1, BAD = -2, NO = -3, FULL = -4;

    /** What the calls answer for BAD where the document says -10. */
    private static final int BAD_TEN = -10;
    private static final int MOST_WORDS = 8;
    private static final int MOST_HANDS = 6;
    private static final int MOST_PUPILS = 8;
    private static final int MOST_LETTERS = 30;
    private static final int MOST_IN_LETTER = 8;
    private static final int MOST_SAID = 40;
    private static final int MOST_DEALT = 6;
    private static final int READERS = 6;
    private static final int MOST_QUESTIONS = 6;
    private static final int GIFTS = 4;
    private static final int RANKS = 10;
    private static final int LAST_YEAR = 39;
    private static final int HE = 1;
    private static final int SHE = 2;
    private static final int MOST_WEIGHT = 9;
    private static final int MOST_WORDS_FOR_ODDS = 12;

    private final Drawer drawer;
    private final Tally tally;
    private final Chances chances;
    private final Years years;
    private final Sides sides;
    private final Sayings sayings;
    private final Deals deals;
    private final Forms forms;
    private final Fraction fraction;
    private final int[] weights;

    public PraiseDrawer() {
        drawer = new Drawer();
        tally = new Tally(drawer);
        weights = new int[GIFTS];
        Arrays.fill(weights, 1);
        chances = new Chances(drawer, tally, weights);
        years = new Years(drawer);
        sides = new Sides(drawer);
        sayings = new Sayings();
        deals = new Deals(drawer);
        forms = new Forms(weights);
        fraction = new Fraction();
    }

    // ---- words, hands, pupils, letters

    public int word(int rank, int about) {
        if (!isRank(rank) || !within(about, 0, SHE)) {
            return BAD;
        }
        return drawer.addWord(rank, about);
    }

    public int hand(int kin) {
        if (kin != NONE && !isHand(kin)) {
            return BAD;
        }
        return drawer.addHand(kin);
    }

    public int pupil(int about, int gift) {
        if (!within(about, HE, SHE) || !within(gift, NONE, GIFTS - 1)) {
            return BAD;
        }
        return drawer.addPupil(about, gift);
    }

    public int became(int pupil, int gift) {
        if (!isPupil(pupil) || !within(gift, NONE, GIFTS - 1)) {
            return BAD_TEN;
        }
        int old = drawer.gifts[pupil];
        drawer.gifts[pupil] = gift;
        return old;
    }

    public int letter(int hand, int pupil, int year) {
        if (!isHand(hand) || !isPupil(pupil) || !isYear(year)) {
            return BAD;
        }
        return drawer.addLetter(hand, pupil, year);
    }

    public int write(int letter, int word) {
        if (!isLetter(letter) || !isWord(word)) {
            return BAD;
        }
        return drawer.addToLetter(letter, word);
    }

    public int weight(int gift, int v) {
        if (!isGift(gift) || !within(v, 1, MOST_WEIGHT)) {
            return BAD;
        }
        int old = weights[gift];
        weights[gift] = v;
        return old;
    }

    public int uses(int hand, int word, int gift) {
        if (!isHand(hand) || !isWord(word) || !isGift(gift)) {
            return BAD;
        }
        tally.takeAllBut(NONE);
        return tally.usesOf(hand, word, gift);
    }

    public int means(int hand, int word, int gift) {
        if (!isHand(hand) || !isWord(word) || !isGift(gift)) {
            return BAD;
        }
        tally.takeAllBut(NONE);
        fraction.put(tally.meantAbove(hand, word, gift), tally.meantBelow(hand, gift));
        return 1;
    }

    public int odds(int pupil, int gift) {
        if (!isPupil(pupil) || !isGift(gift)) {
            return BAD;
        }
        if (chances.wordsFor(pupil) > MOST_WORDS_FOR_ODDS) {
            return NO;
        }
        chances.takeFor(pupil);
        fraction.putBig(chances.shares[gift], chances.whole);
        return 1;
    }

    public int likeliest(int pupil) {
        if (!isPupil(pupil)) {
            return BAD;
        }
        if (chances.wordsFor(pupil) > MOST_WORDS_FOR_ODDS) {
            return NO;
        }
        chances.takeFor(pupil);
        return chances.greatest();
    }

    public int says(int hand) {
        if (!isHand(hand)) {
            return BAD;
        }
        if (drawer.words == 0) {
            return NO;
        }
        tally.takeAllBut(NONE);
        long above = 0;
        long below = 1;
        for (int word = 0; word < drawer.words; word++) {
            for (int high = 0; high < GIFTS; high++) {
                for (int low = 0; low < GIFTS; low++) {
                    long highBelow = tally.meantBelow(hand, high);
                    long lowBelow = tally.meantBelow(hand, low);
                    long apart = tally.meantAbove(hand, word, high) * lowBelow
                            - tally.meantAbove(hand, word, low) * highBelow;
                    if (apart * below > above * highBelow * lowBelow) {
                        above = apart;
                        below = highBelow * lowBelow;
                    }
                }
            }
        }
        fraction.put(above, below);
        return 1;
    }

    // ---- years, words, letters held side by side

    public int year(int year, int hand) {
        if (!isYear(year) || hand != NONE && !isHand(hand)) {
            return BAD;
        }
        years.take(years.first, year, hand);
        int words = years.wordsUpTo(years.first, RANKS - 1);
        if (words == 0) {
            return NO;
        }
        fraction.put(years.sumOfRanks(years.first), words);
        return 1;
    }

    public int asIn(int rank, int a, int b) {
        if (!isRank(rank) || !isYear(a) || !isYear(b)) {
            return BAD;
        }
        years.take(years.first, a, NONE);
        years.take(years.second, b, NONE);
        if (years.wordsUpTo(years.first, RANKS - 1) == 0 || years.wordsUpTo(years.second, RANKS - 1) == 0) {
            return NO;
        }
        return years.rankInSecond(rank);
    }

    public int about(int word, int gift, int what) {
        if (!isWord(word) || !isGift(gift) || !within(what, 0, 3)) {
            return BAD;
        }
        int who = what < 2 ? HE : SHE;
        return what % 2 == 0 ? drawer.lettersOn(who, gift) : drawer.lettersWith(word, who, gift);
    }

    public int chance(int word, int gift, int what) {
        if (!isWord(word) || !isGift(gift) || !within(what, 0, 1)) {
            return BAD;
        }
        int ofHe = drawer.lettersOn(HE, gift);
        int ofShe = drawer.lettersOn(SHE, gift);
        int withHe = drawer.lettersWith(word, HE, gift);
        int chosen = withHe + drawer.lettersWith(word, SHE, gift);
        long ways = 0;
        for (int he = withHe; he <= chosen; he++) {
            ways += choices(ofHe, he) * choices(ofShe, chosen - he);
        }
        long all = choices(ofHe + ofShe, chosen);
        if (what == 1) {
            ways = Math.min(ways * drawer.words, all);
        }
        fraction.put(ways, all);
        return 1;
    }

    public int like(int a, int b, int what) {
        if (!isLetter(a) || !isLetter(b) || a == b || !within(what, 0, 1)) {
            return BAD;
        }
        return what == 0 ? sides.longestRun(a, b) : sides.mostInOrder(a, b);
    }

    public int left(int letter, int run) {
        if (!isLetter(letter) || !within(run, 1, MOST_IN_LETTER)) {
            return BAD;
        }
        return sides.leftFrom(letter, run);
    }

    public int slip(int letter) {
        if (!isLetter(letter)) {
            return BAD;
        }
        int who = drawer.pupilAbouts[drawer.letterPupils[letter]];
        for (int place = 0; place < drawer.sizes[letter]; place++) {
            int of = drawer.wordAbouts[drawer.texts[letter][place]];
            if (of != 0 && of != who) {
                return place;
            }
        }
        return NONE;
    }

    // ---- orders, deals, bounds, forms

    public int said(int hand, int better, int than) {
        if (!isHand(hand) || !isPupil(better) || !isPupil(than) || better == than) {
            return BAD;
        }
        return sayings.add(hand, better, than);
    }

    public int order(int what) {
        if (what != NONE && !isPupil(what)) {
            return BAD_TEN;
        }
        int against = sayings.fewestAgainst(drawer.pupils, NONE, NONE);
        return what == NONE ? against : sayings.pupilInPlace(drawer.pupils, what);
    }

    public int sure(int a, int b) {
        if (!isPupil(a) || !isPupil(b) || a == b) {
            return BAD;
        }
        int against = sayings.fewestAgainst(drawer.pupils, NONE, NONE);
        // a is ahead in all best rows just if every row with b ahead is a worse one.
        return sayings.fewestAgainst(drawer.pupils, a, b) > against ? 1 : 0;
    }

    public int kin(int reader, int hands) {
        if (!within(reader, 0, READERS - 1) || !within(hands, 0, (1 << MOST_HANDS) - 1)) {
            return BAD;
        }
        int old = deals.kinOfReaders[reader];
        deals.kinOfReaders[reader] = hands;
        return old;
    }

    public int dealt(int letters, int what) {
        if (!within(letters, 1, (1 << drawer.letters) - 1) || Integer.bitCount(letters) > MOST_DEALT) {
            return BAD_TEN;
        }
        if (what != NONE && (!isLetter(what) || (letters >> what & 1) == 0)) {
            return BAD_TEN;
        }
        int ways = deals.waysOf(letters);
        return what == NONE ? ways : deals.readerInFirst(what);
    }

    public int bounds(int n, int k, int g, int what) {
        if (!within(n, 1, 9999) || !within(k, 0, n) || !within(g, 0, k) || !within(what, 0, 1)) {
            return BAD;
        }
        fraction.put(what == 0 ? g : g + n - k, n);
        return 1;
    }

    public int question(int minutes, int a, int b, int c, int d) {
        if (!within(minutes, 1, 30) || !isPercent(a) || !isPercent(b) || !isPercent(c) || !isPercent(d)) {
            return BAD;
        }
        return forms.add(minutes, a, b, c, d);
    }

    public int tells(int questions) {
        if (!within(questions, 0, (1 << forms.size) - 1)) {
            return BAD;
        }
        fraction.put(forms.guessedRight(questions), forms.allGuesses(questions));
        return 1;
    }

    public int form(int minutes) {
        if (!within(minutes, 0, 200)) {
            return BAD;
        }
        return forms.bestWithin(minutes);
    }

    public int sign(int what) {
        if (!within(what, 0, 2)) {
            return BAD;
        }
        if (what == 0) {
            return fraction.above.size == 0 ? 0 : 1;
        }
        return what == 1 ? fraction.above.size : fraction.below.size;
    }

    public int limb(int which, int i) {
        if (!within(which, 0, 1) || i < 0) {
            return BAD;
        }
        Big side = which == 0 ? fraction.above : fraction.below;
        return i < side.size ? side.limbs[i] : NONE;
    }

    public int count(int what) {
        switch (what) {
            case 0: return drawer.words;
            case 1: return drawer.hands;
            case 2: return drawer.pupils;
            case 3: return drawer.letters;
            case 4: return sayings.size;
            case 5: return forms.size;
            default: return BAD;
        }
    }

    public long digest() {
        long h = 479;
        for (int what = 0; what <= 5; what++) {
            h = 31 * h + count(what);
        }
        h = drawer.digestInto(h);
        h = digestOfRow(h, weights, GIFTS);
        h = sayings.digestInto(h);
        h = digestOfRow(h, deals.kinOfReaders, READERS);
        h = forms.digestInto(h);
        h = 31 * h + order(NONE);
        for (int what = 0; what <= 2; what++) {
            h = 31 * h + sign(what);
        }
        h = digestOfRow(h, fraction.above.limbs, fraction.above.size);
        return digestOfRow(h, fraction.below.limbs, fraction.below.size);
    }

    private static long digestOfRow(long h, int[] row, int size) {
        long all = h;
        for (int i = 0; i < size && i < row.length; i++) {
            all = 31 * all + row[i];
        }
        return all;
    }

    // ---- what a number is told as

    private static boolean within(int number, int least, int most) {
        return number >= least && number <= most;
    }

    private static boolean isRank(int rank) {
        return within(rank, 0, RANKS - 1);
    }

    private static boolean isYear(int year) {
        return within(year, 0, LAST_YEAR);
    }

    private static boolean isGift(int gift) {
        return within(gift, 0, GIFTS - 1);
    }

    private static boolean isPercent(int yes) {
        return within(yes, 0, 100);
    }

    private boolean isWord(int word) {
        return within(word, 0, drawer.words - 1);
    }

    private boolean isHand(int hand) {
        return within(hand, 0, drawer.hands - 1);
    }

    private boolean isPupil(int pupil) {
        return within(pupil, 0, drawer.pupils - 1);
    }

    private boolean isLetter(int letter) {
        return within(letter, 0, drawer.letters - 1);
    }

    /** In how many ways some can be chosen of so many (30 at most, so that it never overflows). */
    private static long choices(int of, int some) {
        if (some < 0 || some > of) {
            return 0;
        }
        long ways = 1;
        for (int i = 1; i <= some; i++) {
            ways = ways * (of - some + i) / i;
        }
        return ways;
    }

    /** The words, hands, pupils and letters that were told, and what is counted of them. */
    private static final class Drawer {
        final int[] ranks = new int[MOST_WORDS];
        final int[] wordAbouts = new int[MOST_WORDS];
        final int[] kins = new int[MOST_HANDS];
        final int[] pupilAbouts = new int[MOST_PUPILS];
        final int[] gifts = new int[MOST_PUPILS];
        final int[] letterHands = new int[MOST_LETTERS];
        final int[] letterPupils = new int[MOST_LETTERS];
        final int[] letterYears = new int[MOST_LETTERS];
        final int[] sizes = new int[MOST_LETTERS];
        final int[][] texts = new int[MOST_LETTERS][MOST_IN_LETTER];
        int words;
        int hands;
        int pupils;
        int letters;

        int addWord(int rank, int about) {
            if (words >= MOST_WORDS) {
                return FULL;
            }
            ranks[words] = rank;
            wordAbouts[words] = about;
            return words++;
        }

        int addHand(int kin) {
            if (hands >= MOST_HANDS) {
                return FULL;
            }
            kins[hands] = kin;
            return hands++;
        }

        int addPupil(int about, int gift) {
            if (pupils >= MOST_PUPILS) {
                return FULL;
            }
            pupilAbouts[pupils] = about;
            gifts[pupils] = gift;
            return pupils++;
        }

        int addLetter(int hand, int pupil, int year) {
            if (letters >= MOST_LETTERS) {
                return FULL;
            }
            letterHands[letters] = hand;
            letterPupils[letters] = pupil;
            letterYears[letters] = year;
            return letters++;
        }

        int addToLetter(int letter, int word) {
            if (sizes[letter] >= MOST_IN_LETTER) {
                return FULL;
            }
            texts[letter][sizes[letter]] = word;
            sizes[letter]++;
            return sizes[letter];
        }

        int lettersOn(int who, int gift) {
            int found = 0;
            for (int letter = 0; letter < letters; letter++) {
                if (isOn(letter, who, gift)) {
                    found++;
                }
            }
            return found;
        }

        int lettersWith(int word, int who, int gift) {
            int found = 0;
            for (int letter = 0; letter < letters; letter++) {
                if (isOn(letter, who, gift) && holds(letter, word)) {
                    found++;
                }
            }
            return found;
        }

        private boolean isOn(int letter, int who, int gift) {
            int pupil = letterPupils[letter];
            return pupilAbouts[pupil] == who && gifts[pupil] == gift;
        }

        private boolean holds(int letter, int word) {
            for (int place = 0; place < sizes[letter]; place++) {
                if (texts[letter][place] == word) {
                    return true;
                }
            }
            return false;
        }

        long digestInto(long start) {
            long h = start;
            for (int word = 0; word < words; word++) {
                h = 31 * h + ranks[word];
                h = 31 * h + wordAbouts[word];
            }
            h = digestOfRow(h, kins, hands);
            for (int pupil = 0; pupil < pupils; pupil++) {
                h = 31 * h + pupilAbouts[pupil];
                h = 31 * h + gifts[pupil];
            }
            for (int letter = 0; letter < letters; letter++) {
                h = 31 * h + letterHands[letter];
                h = 31 * h + letterPupils[letter];
                h = 31 * h + letterYears[letter];
                h = 31 * h + sizes[letter];
                h = digestOfRow(h, texts[letter], sizes[letter]);
            }
            return h;
        }
    }

    /** How often each word stands in each hand's letters for each gift. */
    private static final class Tally {
        private final Drawer drawer;
        /** By hand and gift (see rowOf), then by word. */
        private final int[][] times = new int[MOST_HANDS * GIFTS][MOST_WORDS];
        private final int[] timesOfAll = new int[MOST_HANDS * GIFTS];

        Tally(Drawer drawer) {
            this.drawer = drawer;
        }

        /** Counts all letters but those of one pupil (NONE: of nobody), as if his gift were not known. */
        void takeAllBut(int unknown) {
            Arrays.fill(timesOfAll, 0);
            for (int row = 0; row < times.length; row++) {
                Arrays.fill(times[row], 0);
            }
            for (int letter = 0; letter < drawer.letters; letter++) {
                int pupil = drawer.letterPupils[letter];
                int gift = drawer.gifts[pupil];
                if (pupil != unknown && gift != NONE) {
                    takeLetter(letter, rowOf(drawer.letterHands[letter], gift));
                }
            }
        }

        private void takeLetter(int letter, int row) {
            for (int place = 0; place < drawer.sizes[letter]; place++) {
                times[row][drawer.texts[letter][place]]++;
                timesOfAll[row]++;
            }
        }

        private static int rowOf(int hand, int gift) {
            return hand * GIFTS + gift;
        }

        int usesOf(int hand, int word, int gift) {
            int own = times[rowOf(hand, gift)][word];
            int kin = drawer.kins[hand];
            return kin == NONE ? own : own + times[rowOf(kin, gift)][word];
        }

        private int usesOfAll(int hand, int gift) {
            int own = timesOfAll[rowOf(hand, gift)];
            int kin = drawer.kins[hand];
            return kin == NONE ? own : own + timesOfAll[rowOf(kin, gift)];
        }

        long meantAbove(int hand, int word, int gift) {
            return 1 + usesOf(hand, word, gift);
        }

        long meantBelow(int hand, int gift) {
            return drawer.words + usesOfAll(hand, gift);
        }
    }

    /** What all letters of one pupil say for each of the gifts, as whole numbers and their sum. */
    private static final class Chances {
        private final Drawer drawer;
        private final Tally tally;
        private final int[] weights;
        final Big[] shares = new Big[GIFTS];
        final Big whole = new Big();

        Chances(Drawer drawer, Tally tally, int[] weights) {
            this.drawer = drawer;
            this.tally = tally;
            this.weights = weights;
            for (int gift = 0; gift < GIFTS; gift++) {
                shares[gift] = new Big();
            }
        }

        int wordsFor(int pupil) {
            int words = 0;
            for (int letter = 0; letter < drawer.letters; letter++) {
                if (drawer.letterPupils[letter] == pupil) {
                    words += drawer.sizes[letter];
                }
            }
            return words;
        }

        void takeFor(int pupil) {
            tally.takeAllBut(pupil);
            for (int gift = 0; gift < GIFTS; gift++) {
                shares[gift].put(weights[gift]);
            }
            for (int letter = 0; letter < drawer.letters; letter++) {
                if (drawer.letterPupils[letter] == pupil) {
                    takeLetter(letter);
                }
            }
            whole.put(0);
            for (int gift = 0; gift < GIFTS; gift++) {
                whole.add(shares[gift]);
            }
        }

        private void takeLetter(int letter) {
            int hand = drawer.letterHands[letter];
            for (int place = 0; place < drawer.sizes[letter]; place++) {
                for (int gift = 0; gift < GIFTS; gift++) {
                    shares[gift].multiply(factorOf(hand, drawer.texts[letter][place], gift));
                }
            }
        }

        /** What the word means for the gift, times what stands below for all gifts: so all shares stay whole. */
        private long factorOf(int hand, int word, int gift) {
            long factor = tally.meantAbove(hand, word, gift);
            for (int other = 0; other < GIFTS; other++) {
                if (other != gift) {
                    factor *= tally.meantBelow(hand, other);
                }
            }
            return factor;
        }

        int greatest() {
            int best = 0;
            for (int gift = 1; gift < GIFTS; gift++) {
                if (shares[gift].isAbove(shares[best])) {
                    best = gift;
                }
            }
            return best;
        }
    }

    /** How many words of each rank stand in the letters of one year, and of another. */
    private static final class Years {
        private final Drawer drawer;
        final int[] first = new int[RANKS];
        final int[] second = new int[RANKS];

        Years(Drawer drawer) {
            this.drawer = drawer;
        }

        void take(int[] words, int year, int hand) {
            Arrays.fill(words, 0);
            for (int letter = 0; letter < drawer.letters; letter++) {
                boolean isBy = hand == NONE || drawer.letterHands[letter] == hand;
                if (isBy && drawer.letterYears[letter] == year) {
                    takeLetter(words, letter);
                }
            }
        }

        private void takeLetter(int[] words, int letter) {
            for (int place = 0; place < drawer.sizes[letter]; place++) {
                words[drawer.ranks[drawer.texts[letter][place]]]++;
            }
        }

        int wordsUpTo(int[] words, int most) {
            int found = 0;
            for (int rank = 0; rank <= most && rank < words.length; rank++) {
                found += words[rank];
            }
            return found;
        }

        int sumOfRanks(int[] words) {
            int sum = 0;
            for (int rank = 0; rank < words.length; rank++) {
                sum += rank * words[rank];
            }
            return sum;
        }

        int rankInSecond(int rank) {
            int share = wordsUpTo(first, rank);
            int firstWords = wordsUpTo(first, RANKS - 1);
            int secondWords = wordsUpTo(second, RANKS - 1);
            int found = 0;
            while (found < RANKS - 1 && wordsUpTo(second, found) * firstWords < share * secondWords) {
                found++;
            }
            return found;
        }
    }

    /** Two letters held side by side. */
    private static final class Sides {
        private final Drawer drawer;
        /** By how many words of the one letter, and of the other; row and column 0 stay 0. */
        private final int[][] alike = new int[MOST_IN_LETTER + 1][MOST_IN_LETTER + 1];

        Sides(Drawer drawer) {
            this.drawer = drawer;
        }

        int longestRun(int a, int b) {
            int longest = 0;
            for (int i = 1; i <= drawer.sizes[a]; i++) {
                for (int j = 1; j <= drawer.sizes[b]; j++) {
                    boolean same = drawer.texts[a][i - 1] == drawer.texts[b][j - 1];
                    alike[i][j] = same ? alike[i - 1][j - 1] + 1 : 0;
                    longest = Math.max(longest, alike[i][j]);
                }
            }
            return longest;
        }

        int mostInOrder(int a, int b) {
            for (int i = 1; i <= drawer.sizes[a]; i++) {
                for (int j = 1; j <= drawer.sizes[b]; j++) {
                    boolean same = drawer.texts[a][i - 1] == drawer.texts[b][j - 1];
                    alike[i][j] = same ? alike[i - 1][j - 1] + 1 : Math.max(alike[i - 1][j], alike[i][j - 1]);
                }
            }
            return alike[drawer.sizes[a]][drawer.sizes[b]];
        }

        int leftFrom(int letter, int least) {
            int found = NONE;
            int longest = least - 1;
            for (int other = 0; other < drawer.letters; other++) {
                boolean isEarlier = drawer.letterYears[other] < drawer.letterYears[letter];
                if (isEarlier && drawer.letterHands[other] == drawer.letterHands[letter]) {
                    int run = longestRun(letter, other);
                    if (run > longest) {
                        longest = run;
                        found = other;
                    }
                }
            }
            return found;
        }
    }

    /** What hands say of two pupils, and the order that goes against the fewest of it. */
    private static final class Sayings {
        private static final int MORE_THAN_ALL = MOST_SAID + 1;
        private final int[] hands = new int[MOST_SAID];
        private final int[] betters = new int[MOST_SAID];
        private final int[] thans = new int[MOST_SAID];
        int size;
        /** How often the one (first index) is said to be better than the other. */
        private final int[][] over = new int[MOST_PUPILS][MOST_PUPILS];
        /** How many go against a pupil (first index) who stands ahead of all of a set (bits). */
        private final int[][] againstAhead = new int[MOST_PUPILS][1 << MOST_PUPILS];
        /** How many at least go against a row of a set (bits), for each set. */
        private final int[] fewest = new int[1 << MOST_PUPILS];

        int add(int hand, int better, int than) {
            if (size >= MOST_SAID) {
                return FULL;
            }
            hands[size] = hand;
            betters[size] = better;
            thans[size] = than;
            over[better][than]++;
            size++;
            return size;
        }

        /** Over rows of all pupils in which late is behind early (both NONE: over all rows). */
        int fewestAgainst(int pupils, int late, int early) {
            takeAhead(pupils);
            fewest[0] = 0;
            for (int set = 1; set < 1 << pupils; set++) {
                fewest[set] = MORE_THAN_ALL;
                for (int first = 0; first < pupils; first++) {
                    boolean isTooEarly = first == late && (set >> early & 1) == 1;
                    if ((set >> first & 1) == 1 && !isTooEarly) {
                        fewest[set] = Math.min(fewest[set], againstFirst(first, set));
                    }
                }
            }
            return fewest[(1 << pupils) - 1];
        }

        private void takeAhead(int pupils) {
            for (int pupil = 0; pupil < pupils; pupil++) {
                for (int set = 1; set < 1 << pupils; set++) {
                    int one = Integer.numberOfTrailingZeros(set);
                    againstAhead[pupil][set] = againstAhead[pupil][set & set - 1] + over[one][pupil];
                }
            }
        }

        private int againstFirst(int first, int set) {
            int rest = set & ~(1 << first);
            return againstAhead[first][rest] + fewest[rest];
        }

        /** After fewestAgainst over all rows. */
        int pupilInPlace(int pupils, int place) {
            int set = (1 << pupils) - 1;
            int found = NONE;
            for (int at = 0; at <= place; at++) {
                found = firstOf(pupils, set);
                set &= ~(1 << found);
            }
            return found;
        }

        private int firstOf(int pupils, int set) {
            int first = 0;
            while (first < pupils - 1 && ((set >> first & 1) == 0 || againstFirst(first, set) > fewest[set])) {
                first++;
            }
            return first;
        }

        long digestInto(long start) {
            long h = start;
            for (int i = 0; i < size; i++) {
                h = 31 * h + hands[i];
                h = 31 * h + betters[i];
                h = 31 * h + thans[i];
            }
            return h;
        }
    }

    /** Letters dealt to readers who are no kin of their hand. */
    private static final class Deals {
        private final Drawer drawer;
        final int[] kinOfReaders = new int[READERS];
        private final int[] letters = new int[MOST_DEALT];
        private int size;
        /** In how many ways the other letters can be dealt when these readers (bits) have the first ones. */
        private final int[] ways = new int[1 << READERS];

        Deals(Drawer drawer) {
            this.drawer = drawer;
        }

        int waysOf(int bits) {
            size = 0;
            for (int letter = 0; letter < drawer.letters; letter++) {
                if ((bits >> letter & 1) == 1 && size < MOST_DEALT) {
                    letters[size] = letter;
                    size++;
                }
            }
            for (int taken = (1 << READERS) - 1; taken >= 0; taken--) {
                ways[taken] = waysBehind(taken);
            }
            return ways[0];
        }

        private int waysBehind(int taken) {
            int next = Integer.bitCount(taken);
            if (next >= size) {
                return next == size ? 1 : 0;
            }
            int found = 0;
            for (int reader = 0; reader < READERS; reader++) {
                if (canRead(reader, letters[next], taken)) {
                    found += ways[taken | 1 << reader];
                }
            }
            return found;
        }

        private boolean canRead(int reader, int letter, int taken) {
            boolean isKin = (kinOfReaders[reader] >> drawer.letterHands[letter] & 1) == 1;
            return !isKin && (taken >> reader & 1) == 0;
        }

        /** After waysOf: who reads the letter in the first of the ways. */
        int readerInFirst(int letter) {
            int taken = 0;
            for (int i = 0; i < size; i++) {
                int reader = firstReader(letters[i], taken);
                if (reader == NONE || letters[i] == letter) {
                    return reader;
                }
                taken |= 1 << reader;
            }
            return NONE;
        }

        private int firstReader(int letter, int taken) {
            for (int reader = 0; reader < READERS; reader++) {
                if (canRead(reader, letter, taken) && ways[taken | 1 << reader] > 0) {
                    return reader;
                }
            }
            return NONE;
        }
    }

    /** Questions of a form, and how well their answers tell the gift. */
    private static final class Forms {
        private final int[] weights;
        private final int[] minutes = new int[MOST_QUESTIONS];
        private final int[][] yes = new int[MOST_QUESTIONS][GIFTS];
        int size;
        /** How much each row of answers weighs, for each gift. */
        private final long[][] answers = new long[GIFTS][1 << MOST_QUESTIONS];

        Forms(int[] weights) {
            this.weights = weights;
        }

        int add(int howLong, int a, int b, int c, int d) {
            if (size >= MOST_QUESTIONS) {
                return FULL;
            }
            minutes[size] = howLong;
            yes[size][0] = a;
            yes[size][1] = b;
            yes[size][2] = c;
            yes[size][3] = d;
            return size++;
        }

        /** Of allGuesses, how many are right if the likeliest gift is guessed. */
        long guessedRight(int bits) {
            int rows = 1;
            for (int gift = 0; gift < GIFTS; gift++) {
                answers[gift][0] = weights[gift];
            }
            for (int asked = 0; asked < size; asked++) {
                if ((bits >> asked & 1) == 1) {
                    ask(asked, rows);
                    rows *= 2;
                }
            }
            long right = 0;
            for (int row = 0; row < rows; row++) {
                long most = 0;
                for (int gift = 0; gift < GIFTS; gift++) {
                    most = Math.max(most, answers[gift][row]);
                }
                right += most;
            }
            return right;
        }

        /** Each row of answers so far becomes two: no keeps its place, yes stands behind all of them. */
        private void ask(int asked, int rows) {
            for (int gift = 0; gift < GIFTS; gift++) {
                for (int row = 0; row < rows; row++) {
                    answers[gift][rows + row] = answers[gift][row] * yes[asked][gift];
                    answers[gift][row] *= 100 - yes[asked][gift];
                }
            }
        }

        long allGuesses(int bits) {
            long all = 0;
            for (int gift = 0; gift < GIFTS; gift++) {
                all += weights[gift];
            }
            return all * hundreds(Integer.bitCount(bits));
        }

        private static long hundreds(int howMany) {
            long product = 1;
            for (int i = 0; i < howMany; i++) {
                product *= 100;
            }
            return product;
        }

        private int minutesOf(int bits) {
            int sum = 0;
            for (int asked = 0; asked < size; asked++) {
                if ((bits >> asked & 1) == 1) {
                    sum += minutes[asked];
                }
            }
            return sum;
        }

        int bestWithin(int most) {
            int best = 0;
            long bestRight = 0;
            int bestMinutes = 0;
            for (int bits = 0; bits < 1 << size; bits++) {
                int taken = minutesOf(bits);
                if (taken <= most) {
                    // Brought to one measure, so that forms of few and of many questions compare.
                    long right = guessedRight(bits) * hundreds(MOST_QUESTIONS - Integer.bitCount(bits));
                    if (right > bestRight || right == bestRight && taken < bestMinutes) {
                        best = bits;
                        bestRight = right;
                        bestMinutes = taken;
                    }
                }
            }
            return best;
        }

        long digestInto(long start) {
            long h = start;
            for (int asked = 0; asked < size; asked++) {
                h = 31 * h + minutes[asked];
                h = digestOfRow(h, yes[asked], GIFTS);
            }
            return h;
        }
    }

    /** The fraction: never below 0, in lowest terms, below above 0. */
    private static final class Fraction {
        /** No number that odds are made of has a greater factor: 1 and all words of all letters, 8 words. */
        private static final int MOST_FACTOR = MOST_LETTERS * MOST_IN_LETTER + MOST_WORDS;
        /** Far above what any two long numbers need. */
        private static final int MOST_STEPS = 200;
        final Big above = new Big();
        final Big below = new Big();

        Fraction() {
            below.put(1);
        }

        void put(long up, long down) {
            long common = commonOf(up, down);
            if (common > 0) {
                above.put(up / common);
                below.put(down / common);
            }
        }

        private static long commonOf(long up, long down) {
            long a = down;
            long b = up;
            for (int step = 0; step < MOST_STEPS && b != 0; step++) {
                long rest = a % b;
                a = b;
                b = rest;
            }
            return a;
        }

        /** Up must be a product of factors of MOST_FACTOR at most: only such can be common. */
        void putBig(Big up, Big down) {
            above.copy(up);
            below.copy(down);
            for (int factor = 2; factor <= MOST_FACTOR; factor++) {
                int most = Big.MOST_LIMBS * Big.LIMB_BITS;
                for (int i = 0; i < most && above.restOf(factor) == 0 && below.restOf(factor) == 0; i++) {
                    above.divide(factor);
                    below.divide(factor);
                }
            }
        }
    }

    /** A whole number of 0 or above, as limbs, the lowest first; 0 has none. */
    private static final class Big {
        static final int LIMB_BITS = 30;
        static final long LIMB_MASK = (1L << LIMB_BITS) - 1;
        /** Odds need 13: 12 factors below 2 to the 32nd, a weight, and a sum of four. */
        static final int MOST_LIMBS = 16;
        final int[] limbs = new int[MOST_LIMBS];
        int size;

        void put(long value) {
            size = 0;
            carryOn(value);
        }

        void copy(Big other) {
            size = other.size;
            System.arraycopy(other.limbs, 0, limbs, 0, MOST_LIMBS);
        }

        private void carryOn(long carry) {
            for (long rest = carry; rest > 0 && size < MOST_LIMBS; rest >>= LIMB_BITS) {
                limbs[size] = (int) (rest & LIMB_MASK);
                size++;
            }
        }

        /** By a factor above 0 and below 2 to the 32nd. */
        void multiply(long factor) {
            long carry = 0;
            for (int i = 0; i < size; i++) {
                carry += limbs[i] * factor;
                limbs[i] = (int) (carry & LIMB_MASK);
                carry >>= LIMB_BITS;
            }
            carryOn(carry);
        }

        void add(Big other) {
            while (size < other.size) {
                limbs[size] = 0;
                size++;
            }
            long carry = 0;
            for (int i = 0; i < size; i++) {
                carry += limbs[i] + (i < other.size ? other.limbs[i] : 0L);
                limbs[i] = (int) (carry & LIMB_MASK);
                carry >>= LIMB_BITS;
            }
            carryOn(carry);
        }

        int restOf(int divisor) {
            long rest = 0;
            for (int i = size - 1; i >= 0 && divisor > 0; i--) {
                rest = (rest << LIMB_BITS | limbs[i]) % divisor;
            }
            return (int) rest;
        }

        void divide(int divisor) {
            long rest = 0;
            for (int i = size - 1; i >= 0 && divisor > 0; i--) {
                rest = rest << LIMB_BITS | limbs[i];
                limbs[i] = (int) (rest / divisor);
                rest %= divisor;
            }
            while (size > 0 && limbs[size - 1] == 0) {
                size--;
            }
        }

        boolean isAbove(Big other) {
            if (size != other.size) {
                return size > other.size;
            }
            for (int i = size - 1; i >= 0; i--) {
                if (limbs[i] != other.limbs[i]) {
                    return limbs[i] > other.limbs[i];
                }
            }
            return false;
        }
    }
}
