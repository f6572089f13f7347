import java.math.BigInteger;
import java.util.ArrayList;
import java.util.List;

/**
 * The document worked out in the slowest and plainest way, with the whole Java library: all rows,
 * all choices, all answers one by one. The tests hold PraiseDrawer against it.
 */
final class PlainDrawer {
    private static final int NONE = -1, BAD = -2, NO = -3, FULL = -4;

    private final List<int[]> words = new ArrayList<>();
    private final List<Integer> hands = new ArrayList<>();
    private final List<int[]> pupils = new ArrayList<>();
    private final List<int[]> letters = new ArrayList<>();
    private final List<List<Integer>> texts = new ArrayList<>();
    private final List<int[]> said = new ArrayList<>();
    private final List<int[]> questions = new ArrayList<>();
    private final int[] weights = {1, 1, 1, 1};
    private final int[] readers = new int[6];
    private BigInteger above = BigInteger.ZERO;
    private BigInteger below = BigInteger.ONE;
    private List<List<Integer>> bestRows;
    private int against;

    private static boolean in(int v, int least, int most) {
        return least <= v && v <= most;
    }

    private static boolean in(int v, List<?> list) {
        return in(v, 0, list.size() - 1);
    }

    private int fraction(BigInteger[] f) {
        BigInteger common = f[0].gcd(f[1]);
        above = f[0].divide(common);
        below = f[1].divide(common);
        return 1;
    }

    private static BigInteger[] by(long a, long b) {
        return new BigInteger[] {BigInteger.valueOf(a), BigInteger.valueOf(b)};
    }

    private static BigInteger[] times(BigInteger[] a, BigInteger[] b) {
        return new BigInteger[] {a[0].multiply(b[0]), a[1].multiply(b[1])};
    }

    private static BigInteger[] plus(BigInteger[] a, BigInteger[] b) {
        return new BigInteger[] {a[0].multiply(b[1]).add(b[0].multiply(a[1])), a[1].multiply(b[1])};
    }

    private static BigInteger[] less(BigInteger[] a, BigInteger[] b) {
        return plus(a, new BigInteger[] {b[0].negate(), b[1]});
    }

    private static int compare(BigInteger[] a, BigInteger[] b) {
        return a[0].multiply(b[1]).compareTo(b[0].multiply(a[1]));
    }

    int word(int rank, int about) {
        if (!in(rank, 0, 9) || !in(about, 0, 2)) return BAD;
        if (words.size() == 8) return FULL;
        words.add(new int[] {rank, about});
        return words.size() - 1;
    }

    int hand(int kin) {
        if (kin != NONE && !in(kin, hands)) return BAD;
        if (hands.size() == 6) return FULL;
        hands.add(kin);
        return hands.size() - 1;
    }

    int pupil(int about, int gift) {
        if (!in(about, 1, 2) || !in(gift, -1, 3)) return BAD;
        if (pupils.size() == 8) return FULL;
        pupils.add(new int[] {about, gift});
        bestRows = null;
        return pupils.size() - 1;
    }

    int became(int pupil, int gift) {
        if (!in(pupil, pupils) || !in(gift, -1, 3)) return -10;
        int old = pupils.get(pupil)[1];
        pupils.get(pupil)[1] = gift;
        return old;
    }

    int letter(int hand, int pupil, int year) {
        if (!in(hand, hands) || !in(pupil, pupils) || !in(year, 0, 39)) return BAD;
        if (letters.size() == 30) return FULL;
        letters.add(new int[] {hand, pupil, year});
        texts.add(new ArrayList<>());
        return letters.size() - 1;
    }

    int write(int letter, int word) {
        if (!in(letter, letters) || !in(word, words)) return BAD;
        if (texts.get(letter).size() == 8) return FULL;
        texts.get(letter).add(word);
        return texts.get(letter).size();
    }

    int weight(int gift, int v) {
        if (!in(gift, 0, 3) || !in(v, 1, 9)) return BAD;
        int old = weights[gift];
        weights[gift] = v;
        return old;
    }

    private int usesBut(int pupil, int hand, int word, int gift) {
        int uses = 0;
        for (int l = 0; l < letters.size(); l++) {
            int[] letter = letters.get(l);
            if (letter[0] != hand && letter[0] != hands.get(hand)) continue;
            if (letter[1] == pupil || pupils.get(letter[1])[1] != gift) continue;
            for (int w : texts.get(l)) if (w == word) uses++;
        }
        return uses;
    }

    private BigInteger[] meansBut(int pupil, int hand, int word, int gift) {
        int all = words.size();
        for (int w = 0; w < words.size(); w++) all += usesBut(pupil, hand, w, gift);
        return by(1 + usesBut(pupil, hand, word, gift), all);
    }

    int uses(int hand, int word, int gift) {
        if (!in(hand, hands) || !in(word, words) || !in(gift, 0, 3)) return BAD;
        return usesBut(NONE, hand, word, gift);
    }

    int means(int hand, int word, int gift) {
        if (!in(hand, hands) || !in(word, words) || !in(gift, 0, 3)) return BAD;
        return fraction(meansBut(NONE, hand, word, gift));
    }

    private BigInteger[] share(int pupil, int gift) {
        BigInteger[] share = by(weights[gift], 1);
        for (int l = 0; l < letters.size(); l++) {
            if (letters.get(l)[1] != pupil) continue;
            for (int w : texts.get(l)) share = times(share, meansBut(pupil, letters.get(l)[0], w, gift));
        }
        return share;
    }

    private int wordsOf(int pupil) {
        int sum = 0;
        for (int l = 0; l < letters.size(); l++) if (letters.get(l)[1] == pupil) sum += texts.get(l).size();
        return sum;
    }

    int odds(int pupil, int gift) {
        if (!in(pupil, pupils) || !in(gift, 0, 3)) return BAD;
        if (wordsOf(pupil) > 12) return NO;
        BigInteger[] sum = by(0, 1);
        for (int g = 0; g < 4; g++) sum = plus(sum, share(pupil, g));
        BigInteger[] own = share(pupil, gift);
        return fraction(times(own, new BigInteger[] {sum[1], sum[0]}));
    }

    int likeliest(int pupil) {
        if (!in(pupil, pupils)) return BAD;
        if (wordsOf(pupil) > 12) return NO;
        int best = 0;
        for (int g = 1; g < 4; g++) if (compare(share(pupil, g), share(pupil, best)) > 0) best = g;
        return best;
    }

    int says(int hand) {
        if (!in(hand, hands)) return BAD;
        if (words.isEmpty()) return NO;
        BigInteger[] best = by(0, 1);
        for (int w = 0; w < words.size(); w++) {
            BigInteger[] least = meansBut(NONE, hand, w, 0);
            BigInteger[] greatest = least;
            for (int g = 1; g < 4; g++) {
                BigInteger[] m = meansBut(NONE, hand, w, g);
                if (compare(m, least) < 0) least = m;
                if (compare(m, greatest) > 0) greatest = m;
            }
            if (compare(less(greatest, least), best) > 0) best = less(greatest, least);
        }
        return fraction(best);
    }

    private List<Integer> ranksOf(int year, int hand) {
        List<Integer> ranks = new ArrayList<>();
        for (int l = 0; l < letters.size(); l++) {
            if (letters.get(l)[2] != year || hand != NONE && letters.get(l)[0] != hand) continue;
            for (int w : texts.get(l)) ranks.add(words.get(w)[0]);
        }
        return ranks;
    }

    private static long atMost(List<Integer> ranks, int most) {
        return ranks.stream().filter(r -> r <= most).count();
    }

    int year(int year, int hand) {
        if (!in(year, 0, 39) || hand != NONE && !in(hand, hands)) return BAD;
        List<Integer> ranks = ranksOf(year, hand);
        if (ranks.isEmpty()) return NO;
        return fraction(by(ranks.stream().mapToInt(r -> r).sum(), ranks.size()));
    }

    int asIn(int rank, int a, int b) {
        if (!in(rank, 0, 9) || !in(a, 0, 39) || !in(b, 0, 39)) return BAD;
        List<Integer> as = ranksOf(a, NONE);
        List<Integer> bs = ranksOf(b, NONE);
        if (as.isEmpty() || bs.isEmpty()) return NO;
        int x = 0;
        while (compare(by(atMost(bs, x), bs.size()), by(atMost(as, rank), as.size())) < 0) x++;
        return x;
    }

    private List<Integer> lettersOf(int gift) {
        List<Integer> found = new ArrayList<>();
        for (int l = 0; l < letters.size(); l++) if (pupils.get(letters.get(l)[1])[1] == gift) found.add(l);
        return found;
    }

    private boolean ofHe(int letter) {
        return pupils.get(letters.get(letter)[1])[0] == 1;
    }

    int about(int word, int gift, int what) {
        if (!in(word, words) || !in(gift, 0, 3) || !in(what, 0, 3)) return BAD;
        int found = 0;
        for (int l : lettersOf(gift)) {
            if (ofHe(l) == what < 2 && (what % 2 == 0 || texts.get(l).contains(word))) found++;
        }
        return found;
    }

    /** [all ways to choose, those with so many of a he at least], letter by letter. */
    private BigInteger[] ways(List<Integer> of, int chosen, int hes) {
        BigInteger[][] ways = new BigInteger[chosen + 1][chosen + 1];
        for (BigInteger[] row : ways) java.util.Arrays.fill(row, BigInteger.ZERO);
        ways[0][0] = BigInteger.ONE;
        for (int l : of) {
            for (int n = chosen; n > 0; n--) {
                for (int h = chosen; h >= 0; h--) {
                    int from = ofHe(l) ? h - 1 : h;
                    if (from >= 0) ways[n][h] = ways[n][h].add(ways[n - 1][from]);
                }
            }
        }
        BigInteger all = BigInteger.ZERO;
        BigInteger many = BigInteger.ZERO;
        for (int h = 0; h <= chosen; h++) {
            all = all.add(ways[chosen][h]);
            if (h >= hes) many = many.add(ways[chosen][h]);
        }
        return new BigInteger[] {many, all};
    }

    int chance(int word, int gift, int what) {
        if (!in(word, words) || !in(gift, 0, 3) || !in(what, 0, 1)) return BAD;
        int hes = about(word, gift, 1);
        BigInteger[] chance = ways(lettersOf(gift), hes + about(word, gift, 3), hes);
        if (what == 1) chance = times(chance, by(words.size(), 1));
        return fraction(compare(chance, by(1, 1)) > 0 ? by(1, 1) : chance);
    }

    private static int run(List<Integer> a, List<Integer> b) {
        int best = 0;
        for (int i = 0; i < a.size(); i++) {
            for (int j = i + 1; j <= a.size(); j++) {
                if (java.util.Collections.indexOfSubList(b, a.subList(i, j)) >= 0) best = Math.max(best, j - i);
            }
        }
        return best;
    }

    private static int inOrder(List<Integer> a, List<Integer> b) {
        int best = 0;
        for (int bits = 0; bits < 1 << a.size(); bits++) {
            int at = 0;
            int found = 0;
            for (int i = 0; i < a.size() && found >= 0; i++) {
                if ((bits >> i & 1) == 0) continue;
                while (at < b.size() && !b.get(at).equals(a.get(i))) at++;
                found = at++ < b.size() ? found + 1 : -1;
            }
            best = Math.max(best, found);
        }
        return best;
    }

    int like(int a, int b, int what) {
        if (!in(a, letters) || !in(b, letters) || a == b || !in(what, 0, 1)) return BAD;
        return what == 0 ? run(texts.get(a), texts.get(b)) : inOrder(texts.get(a), texts.get(b));
    }

    int left(int letter, int run) {
        if (!in(letter, letters) || !in(run, 1, 8)) return BAD;
        int best = NONE;
        int most = 0;
        for (int l = 0; l < letters.size(); l++) {
            if (letters.get(l)[0] != letters.get(letter)[0] || letters.get(l)[2] >= letters.get(letter)[2]) continue;
            int r = run(texts.get(l), texts.get(letter));
            if (r > most) {
                most = r;
                best = l;
            }
        }
        return most < run ? NONE : best;
    }

    int slip(int letter) {
        if (!in(letter, letters)) return BAD;
        List<Integer> text = texts.get(letter);
        for (int i = 0; i < text.size(); i++) {
            if (words.get(text.get(i))[0 + 1] == (ofHe(letter) ? 2 : 1)) return i;
        }
        return NONE;
    }

    int said(int hand, int better, int than) {
        if (!in(hand, hands) || !in(better, pupils) || !in(than, pupils) || better == than) return BAD;
        if (said.size() == 40) return FULL;
        said.add(new int[] {hand, better, than});
        bestRows = null;
        return said.size();
    }

    private void rows(List<Integer> row) {
        if (row.size() == pupils.size()) {
            int[] places = new int[row.size()];
            for (int place = 0; place < row.size(); place++) places[row.get(place)] = place;
            int wrong = 0;
            for (int[] s : said) if (places[s[1]] > places[s[2]]) wrong++;
            if (wrong < against) {
                against = wrong;
                bestRows.clear();
            }
            if (wrong == against) bestRows.add(new ArrayList<>(row));
            return;
        }
        for (int p = 0; p < pupils.size(); p++) {
            if (row.contains(p)) continue;
            row.add(p);
            rows(row);
            row.remove(row.size() - 1);
        }
    }

    private void findRows() {
        if (bestRows != null) return;
        bestRows = new ArrayList<>();
        against = Integer.MAX_VALUE;
        rows(new ArrayList<>());
    }

    int order(int what) {
        if (what != NONE && !in(what, pupils)) return -10;
        findRows();
        return what == NONE ? against : bestRows.get(0).get(what);
    }

    int sure(int a, int b) {
        if (!in(a, pupils) || !in(b, pupils) || a == b) return BAD;
        findRows();
        for (List<Integer> row : bestRows) if (row.indexOf(a) > row.indexOf(b)) return 0;
        return 1;
    }

    int kin(int reader, int kin) {
        if (!in(reader, 0, 5) || !in(kin, 0, 63)) return BAD;
        int old = readers[reader];
        readers[reader] = kin;
        return old;
    }

    private void deals(List<Integer> dealt, List<Integer> row, List<List<Integer>> all) {
        if (row.size() == dealt.size()) {
            all.add(new ArrayList<>(row));
            return;
        }
        int hand = letters.get(dealt.get(row.size()))[0];
        for (int r = 0; r < 6; r++) {
            if (row.contains(r) || (readers[r] & 1 << hand) != 0) continue;
            row.add(r);
            deals(dealt, row, all);
            row.remove(row.size() - 1);
        }
    }

    int dealt(int bits, int what) {
        List<Integer> dealt = new ArrayList<>();
        for (int l = 0; l < 32; l++) if ((bits >>> l & 1) == 1) dealt.add(l);
        if (!in(dealt.size(), 1, 6) || dealt.get(dealt.size() - 1) >= letters.size()) return -10;
        if (what != NONE && !dealt.contains(what)) return -10;
        List<List<Integer>> all = new ArrayList<>();
        deals(dealt, new ArrayList<>(), all);
        if (what == NONE) return all.size();
        return all.isEmpty() ? NONE : all.get(0).get(dealt.indexOf(what));
    }

    int bounds(int n, int k, int g, int what) {
        if (!in(n, 1, 9999) || k > n || g > k || g < 0 || !in(what, 0, 1)) return BAD;
        return fraction(by(what == 0 ? g : g + (n - k), n));
    }

    int question(int minutes, int a, int b, int c, int d) {
        if (!in(minutes, 1, 30) || !in(a, 0, 100) || !in(b, 0, 100) || !in(c, 0, 100) || !in(d, 0, 100)) return BAD;
        if (questions.size() == 6) return FULL;
        questions.add(new int[] {minutes, a, b, c, d});
        return questions.size() - 1;
    }

    private BigInteger[] told(int bits) {
        BigInteger[] sum = by(0, 1);
        int weight = weights[0] + weights[1] + weights[2] + weights[3];
        for (int answers = 0; answers < 64; answers++) {
            if ((answers & ~bits) != 0) continue;
            BigInteger[] most = by(0, 1);
            for (int g = 0; g < 4; g++) {
                BigInteger[] p = by(weights[g], weight);
                for (int q = 0; q < questions.size(); q++) {
                    int yes = questions.get(q)[1 + g];
                    if ((bits >> q & 1) == 1) p = times(p, by((answers >> q & 1) == 1 ? yes : 100 - yes, 100));
                }
                if (compare(p, most) > 0) most = p;
            }
            sum = plus(sum, most);
        }
        return sum;
    }

    int tells(int bits) {
        if (!in(bits, 0, (1 << questions.size()) - 1)) return BAD;
        return fraction(told(bits));
    }

    private int minutesOf(int bits) {
        int sum = 0;
        for (int q = 0; q < questions.size(); q++) if ((bits >> q & 1) == 1) sum += questions.get(q)[0];
        return sum;
    }

    int form(int minutes) {
        if (!in(minutes, 0, 200)) return BAD;
        int best = 0;
        BigInteger[] bestTold = told(0);
        for (int bits = 1; bits < 1 << questions.size(); bits++) {
            if (minutesOf(bits) > minutes) continue;
            BigInteger[] told = told(bits);
            int better = compare(told, bestTold);
            if (better > 0 || better == 0 && minutesOf(bits) < minutesOf(best)) {
                best = bits;
                bestTold = told;
            }
        }
        return best;
    }

    private static List<Integer> limbs(BigInteger n) {
        List<Integer> limbs = new ArrayList<>();
        BigInteger base = BigInteger.valueOf(1073741824);
        for (BigInteger rest = n; rest.signum() > 0; rest = rest.divide(base)) limbs.add(rest.mod(base).intValue());
        return limbs;
    }

    int sign(int what) {
        if (!in(what, 0, 2)) return BAD;
        return what == 0 ? above.signum() : limbs(what == 1 ? above : below).size();
    }

    int limb(int which, int i) {
        if (!in(which, 0, 1) || i < 0) return BAD;
        List<Integer> limbs = limbs(which == 0 ? above : below);
        return i < limbs.size() ? limbs.get(i) : NONE;
    }

    int count(int what) {
        if (!in(what, 0, 5)) return BAD;
        return List.of(words, hands, pupils, letters, said, questions).get(what).size();
    }

    long digest() {
        List<Integer> all = new ArrayList<>();
        for (int i = 0; i < 6; i++) all.add(count(i));
        for (int[] w : words) addAll(all, w);
        all.addAll(hands);
        for (int[] p : pupils) addAll(all, p);
        for (int l = 0; l < letters.size(); l++) {
            addAll(all, letters.get(l));
            all.add(texts.get(l).size());
            all.addAll(texts.get(l));
        }
        addAll(all, weights);
        for (int[] s : said) addAll(all, s);
        addAll(all, readers);
        for (int[] q : questions) addAll(all, q);
        all.add(order(NONE));
        for (int i = 0; i < 3; i++) all.add(sign(i));
        all.addAll(limbs(above));
        all.addAll(limbs(below));
        long h = 479;
        for (int v : all) h = 31 * h + v;
        return h;
    }

    private static void addAll(List<Integer> all, int[] row) {
        for (int v : row) all.add(v);
    }
}
