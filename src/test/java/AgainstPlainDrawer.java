/** Long runs of calls, made by a fixed sum and so the same each time, on PraiseDrawer and on PlainDrawer. */
public final class AgainstPlainDrawer {
    private static final Due DUE = new Due("AgainstPlainDrawer");
    private static final int[] ODD = {-1, -2, 64, 63, 1 << 30, Integer.MAX_VALUE, Integer.MIN_VALUE, 10, 40, 101};

    private long seed;
    /** Most letters are of this year or of the three behind it. */
    private int years;
    private PraiseDrawer x;
    private PlainDrawer y;

    public static void main(String[] args) {
        for (int run = 0; run < 600; run++) new AgainstPlainDrawer().run(run);
        DUE.end();
    }

    private int below(int n) {
        seed = seed * 6364136223846793005L + 1442695040888963407L;
        return (int) ((seed >>> 33) % n);
    }

    /** A number below n, or now and then a wrong one. */
    private int any(int n) {
        int kind = below(40);
        if (kind == 0) return ODD[below(ODD.length)];
        if (kind == 1) return n;
        return n < 1 ? 0 : below(n);
    }

    private int orNone(int n) {
        return below(3) == 0 ? -1 : any(n);
    }

    private void run(int run) {
        seed = run * 77777L + 5;
        x = new PraiseDrawer();
        y = new PlainDrawer();
        int words = 1 + below(9);
        int pupils = 1 + below(run % 10 == 0 ? 9 : 6);
        int first = run % 3 == 0 ? 0 : 30 + below(60);
        years = run % 2 == 0 ? 0 : 36;
        if (run % 15 == 7) {
            fill(0);
        } else if (run % 15 == 12) {
            fill(1 + below(3));
        } else if (run % 15 == 4) {
            longOdds(run);
        } else if (first > 0) {
            build(words, pupils, first);
        }
        for (int call = 0; call < 512; call++) {
            int kind = below(33);
            if (below(2) == 0) kind = 5 + below(2);
            if (kind == 2 && below(4) > 0) kind = 10;
            one(run, kind);
        }
        due(run, "digest()", x.digest(), y.digest());
    }

    private void build(int words, int pupils, int letters) {
        for (int i = 0; i < words; i++) one(-1, 0);
        for (int i = 0; i < 4; i++) one(-1, 1);
        for (int i = 0; i < pupils; i++) one(-1, 2);
        for (int i = 0; i < letters; i++) one(-1, i % 3 == 0 ? 4 : 5);
    }

    /** As much of everything as goes in, but for so many of each; some calls on the way are refused. */
    private void fill(int room) {
        int[] kinds = {0, 1, 2, 4, 8, 17};
        int[] most = {8, 6, 8, 30, 40, 6};
        for (int i = 0; i < kinds.length; i++) {
            for (int call = 0; call < 200 && x.count(i) < most[i] - room; call++) one(-1, kinds[i]);
            due(-1, "as full of " + i, x.count(i), most[i] - room);
        }
        for (int i = 0; i < 150; i++) one(-1, 5);
        for (int i = 0; i < 6; i++) one(-1, 13);
    }

    /** Pupils of all gifts with most of the letters; then four of no known gift, 8 to 12 words of each: their odds. */
    private void longOdds(int run) {
        for (int call = 0; call < 100 && x.count(0) < 8; call++) one(run, 0);
        for (int call = 0; call < 100 && x.count(1) < 3; call++) one(run, 1);
        for (int i = 0; i < 8; i++) {
            int gift = i < 4 ? i : -1;
            due(run, "pupil " + i, x.pupil(1 + i % 2, gift), y.pupil(1 + i % 2, gift));
        }
        for (int i = 0; i < 30; i++) {
            if (i < 8) writeLetter(run, 4 + i % 4, 4 + below(3)); else writeLetter(run, below(4), 2 + below(7));
        }
        for (int i = 0; i < 3; i++) {
            for (int pupil = 4; pupil < 8; pupil++) oddsOf(run, pupil);
            one(run, 7);
            one(run, 3);
        }
    }

    private void writeLetter(int run, int pupil, int words) {
        int hand = below(x.count(1));
        int letter = x.letter(hand, pupil, years);
        due(run, "letter " + hand + " " + pupil, letter, y.letter(hand, pupil, years));
        for (int i = 0; i < words; i++) {
            int word = below(x.count(0));
            due(run, "write " + letter + " " + word, x.write(letter, word), y.write(letter, word));
        }
    }

    private void oddsOf(int run, int pupil) {
        for (int gift = 0; gift < 4; gift++) {
            String call = "odds " + pupil + " " + gift;
            due(run, call, x.odds(pupil, gift), y.odds(pupil, gift));
            fraction(run, call);
        }
        due(run, "likeliest " + pupil, x.likeliest(pupil), y.likeliest(pupil));
    }

    private int someYear() {
        return below(4) == 0 ? any(40) : years + any(4);
    }

    private void due(int run, String call, long got, long want) {
        DUE.due("run " + run + " " + call, got, want);
    }

    private void one(int run, int kind) {
        int w = x.count(0), h = x.count(1), p = x.count(2), l = x.count(3), q = x.count(5);
        int a, b, c, d, e;
        switch (kind) {
            case 0: a = any(10); b = any(3); due(run, "word " + a + " " + b, x.word(a, b), y.word(a, b)); break;
            case 1: a = orNone(h); due(run, "hand " + a, x.hand(a), y.hand(a)); break;
            case 2: a = 1 + any(2); b = orNone(4); due(run, "pupil " + a + " " + b, x.pupil(a, b), y.pupil(a, b)); break;
            case 3: a = any(p); b = orNone(4); due(run, "became " + a + " " + b, x.became(a, b), y.became(a, b)); break;
            case 4: a = any(h); b = any(p); c = someYear();
                due(run, "letter " + a + " " + b + " " + c, x.letter(a, b, c), y.letter(a, b, c)); break;
            case 5: a = any(l); b = any(w); due(run, "write " + a + " " + b, x.write(a, b), y.write(a, b)); break;
            case 6: ask(run, below(16), w, h, p, l); break;
            case 7: a = any(4); b = 1 + any(9); due(run, "weight " + a + " " + b, x.weight(a, b), y.weight(a, b)); break;
            case 8: case 9: a = any(h); b = any(p); c = any(p);
                due(run, "said " + a + " " + b + " " + c, x.said(a, b, c), y.said(a, b, c)); break;
            case 10: a = any(h); due(run, "says " + a, x.says(a), y.says(a)); fraction(run, "says " + a); break;
            case 11: a = orNone(p); due(run, "order " + a, x.order(a), y.order(a)); break;
            case 12: a = any(p); b = any(p); due(run, "sure " + a + " " + b, x.sure(a, b), y.sure(a, b)); break;
            case 13: a = any(6); b = any(64); due(run, "kin " + a + " " + b, x.kin(a, b), y.kin(a, b)); break;
            case 14: case 15: deal(run, l); break;
            case 16: a = any(below(2) == 0 ? 9999 : 20); b = any(a < 0 ? 3 : a + 1); c = any(b < 0 ? 3 : b + 1); d = any(2);
                due(run, "bounds " + a + " " + b + " " + c + " " + d, x.bounds(a, b, c, d), y.bounds(a, b, c, d));
                fraction(run, "bounds"); break;
            case 17: a = 1 + any(below(2) == 0 ? 30 : 3); b = percent(); c = percent(); d = percent(); e = percent();
                due(run, "question " + a + " " + b + " " + c + " " + d + " " + e,
                        x.question(a, b, c, d, e), y.question(a, b, c, d, e)); break;
            case 18: a = any(1 << q); due(run, "tells " + a, x.tells(a), y.tells(a)); fraction(run, "tells " + a); break;
            case 19: a = any(below(2) == 0 ? 201 : 20); due(run, "form " + a, x.form(a), y.form(a)); break;
            case 20: a = any(3); due(run, "sign " + a, x.sign(a), y.sign(a)); break;
            case 21: a = any(2); b = any(14); due(run, "limb " + a + " " + b, x.limb(a, b), y.limb(a, b)); break;
            case 22: a = any(6); due(run, "count " + a, x.count(a), y.count(a)); break;
            case 23: due(run, "digest", x.digest(), y.digest()); break;
            default: ask(run, kind - 24, w, h, p, l); break;
        }
    }

    private int percent() {
        int kind = below(6);
        return kind < 3 ? kind * 50 : any(101);
    }

    private void deal(int run, int l) {
        int bits = 0;
        for (int i = below(8); i > 0; i--) bits |= 1 << below(l + 1);
        if (below(30) == 0) bits = any(64);
        int what = orNone(l);
        if (what >= 0 && bits != 0 && below(4) > 0) what = Integer.numberOfTrailingZeros(bits);
        due(run, "dealt " + bits + " " + what, x.dealt(bits, what), y.dealt(bits, what));
    }

    private void ask(int run, int kind, int w, int h, int p, int l) {
        int a, b, c;
        String call;
        switch (kind) {
            case 0: a = any(h); b = any(w); c = any(4); call = "uses " + a + " " + b + " " + c;
                due(run, call, x.uses(a, b, c), y.uses(a, b, c)); break;
            case 1: a = any(h); b = any(w); c = any(4); call = "means " + a + " " + b + " " + c;
                due(run, call, x.means(a, b, c), y.means(a, b, c)); fraction(run, call); break;
            case 2: case 13: case 14: a = any(p); b = any(4); call = "odds " + a + " " + b;
                due(run, call, x.odds(a, b), y.odds(a, b)); fraction(run, call); break;
            case 3: case 15: a = any(p); call = "likeliest " + a; due(run, call, x.likeliest(a), y.likeliest(a)); break;
            case 4: a = someYear(); b = orNone(h); call = "year " + a + " " + b;
                due(run, call, x.year(a, b), y.year(a, b)); fraction(run, call); break;
            case 5: a = any(10); b = someYear(); c = someYear(); call = "asIn " + a + " " + b + " " + c;
                due(run, call, x.asIn(a, b, c), y.asIn(a, b, c)); break;
            case 6: a = any(w); b = any(4); c = any(4); call = "about " + a + " " + b + " " + c;
                due(run, call, x.about(a, b, c), y.about(a, b, c)); break;
            case 7: case 8: a = any(w); b = any(4); c = any(2); call = "chance " + a + " " + b + " " + c;
                due(run, call, x.chance(a, b, c), y.chance(a, b, c)); fraction(run, call); break;
            case 9: case 10: a = any(l); b = any(l); c = any(2); call = "like " + a + " " + b + " " + c;
                due(run, call, x.like(a, b, c), y.like(a, b, c)); break;
            case 11: a = any(l); b = 1 + any(below(2) == 0 ? 8 : 2); call = "left " + a + " " + b;
                due(run, call, x.left(a, b), y.left(a, b)); break;
            default: a = any(l); call = "slip " + a; due(run, call, x.slip(a), y.slip(a)); break;
        }
    }

    private void fraction(int run, String call) {
        for (int what = 0; what < 3; what++) due(run, call + " sign " + what, x.sign(what), y.sign(what));
        for (int which = 0; which < 2; which++) {
            for (int i = 0; i <= x.sign(1 + which); i++) {
                due(run, call + " limb " + which + " " + i, x.limb(which, i), y.limb(which, i));
            }
        }
    }
}
