/** Drawers that several tests begin with. */
final class Drawers {
    private Drawers() {
    }

    /** Words of the ranks told, of anybody. */
    static PraiseDrawer withWords(int... ranks) {
        PraiseDrawer x = new PraiseDrawer();
        for (int rank : ranks) x.word(rank, 0);
        return x;
    }

    /** One hand, and so many he of no known gift. */
    static PraiseDrawer withPupils(int pupils) {
        PraiseDrawer x = new PraiseDrawer();
        x.hand(PraiseDrawer.NONE);
        for (int i = 0; i < pupils; i++) x.pupil(1, PraiseDrawer.NONE);
        return x;
    }

    /** A letter with its words: its number. */
    static int write(PraiseDrawer x, int hand, int pupil, int year, int... words) {
        int letter = x.letter(hand, pupil, year);
        for (int word : words) x.write(letter, word);
        return letter;
    }

    /** Some of everything: 3 words, 2 hands, 3 pupils, 3 letters, 2 said, 2 questions. */
    static PraiseDrawer begun() {
        PraiseDrawer x = new PraiseDrawer();
        for (int i = 0; i < 3; i++) x.word(3 * i, i);
        x.hand(PraiseDrawer.NONE);
        x.hand(0);
        for (int i = 0; i < 3; i++) x.pupil(1 + i % 2, i - 1);
        for (int i = 0; i < 3; i++) write(x, i % 2, i, 20 * i - i, i, 0);
        x.said(0, 1, 2);
        x.said(1, 2, 0);
        x.kin(3, 1);
        for (int i = 0; i < 2; i++) x.question(5 + i, 10, 90, 50, 20);
        x.bounds(10, 6, 3, 1);
        return x;
    }

    /** As much of everything as goes in, in 339 calls. */
    static PraiseDrawer full() {
        PraiseDrawer x = new PraiseDrawer();
        for (int i = 0; i < 8; i++) x.word(i, i % 3);
        for (int i = 0; i < 6; i++) x.hand(i - 1);
        for (int i = 0; i < 8; i++) x.pupil(1 + i % 2, i % 5 - 1);
        for (int i = 0; i < 30; i++) write(x, i % 6, i % 8, i, i % 8, 1, 2, 3, i % 5, 5, 6, 7);
        for (int i = 0; i < 40; i++) x.said(i % 6, i % 8, (i + 1 + i % 7) % 8);
        for (int i = 0; i < 6; i++) x.question(1 + i, 10 * i, 90, 50, 100 - i);
        x.bounds(10, 6, 3, 1);
        return x;
    }
}
