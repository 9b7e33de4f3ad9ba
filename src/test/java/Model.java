import java.math.BigInteger;
import java.util.ArrayList;
import java.util.List;
import java.util.regex.Matcher;
import java.util.regex.Pattern;

/** The document once more, slow and with numbers without bounds, for ModelTest to hold the class against. */
final class Model {
    private static final int NONE = -1, BAD = -2, NOT = -3, FULL = -4;
    private static final BigInteger MOST = BigInteger.valueOf(1000000000L);
    private static final Pattern GRAMMAR = Pattern.compile("[toynu][0-9]{1,2}/[0-9]{1,2}(;[toynu][0-9]{1,2}/[0-9]{1,2})*");
    private static final Pattern ABOVE = Pattern.compile("[toynu]([0-9]{1,2})");
    private static final Pattern BELOW = Pattern.compile("[toynu]([0-9]{1,2})/([0-9]{1,2})");

    /** A fraction in lowest terms. */
    record Q(BigInteger above, BigInteger below) {
        static Q of(long a, long b) {
            return of(BigInteger.valueOf(a), BigInteger.valueOf(b));
        }

        static Q of(BigInteger a, BigInteger b) {
            BigInteger g = a.gcd(b).multiply(BigInteger.valueOf(b.signum()));
            return new Q(a.divide(g), b.divide(g));
        }

        Q plus(Q q) {
            return of(above.multiply(q.below).add(q.above.multiply(below)), below.multiply(q.below));
        }

        Q times(Q q) {
            return of(above.multiply(q.above), below.multiply(q.below));
        }

        Q minus(Q q) {
            return plus(q.times(of(-1, 1)));
        }

        Q by(Q q) {
            return times(of(q.below, q.above));
        }

        boolean isZero() {
            return above.signum() == 0;
        }

        int compare(Q q) {
            return minus(q).above.signum();
        }

        long told(int what) {
            return (what == 0 ? above : below).longValueExact();
        }
    }

    record Answer(int person, int design, int yes, int day) {
    }

    static final Q ZERO = Q.of(0, 1), ONE = Q.of(1, 1);

    final StringBuilder[] text = {new StringBuilder(), new StringBuilder(), new StringBuilder(), new StringBuilder()};
    final Object[] sheets = new Object[4];
    final int[] groups = new int[24];
    final List<Answer> answers = new ArrayList<>();
    final List<Integer> taken = new ArrayList<>();
    int day = 0, asOf = NONE, other = 12, limit = 100, finding = 0;

    static boolean in(int v, int least, int most) {
        return v >= least && v <= most;
    }

    static long refused(int x) {
        return Long.MIN_VALUE - x;
    }

    int found(int number) {
        finding = number;
        return -10 - number;
    }

    // ---- designs

    int fault(int d) {
        String all = text[d].toString();
        int end = 0;
        for (int i = 1; i <= all.length(); i++) {
            Matcher m = GRAMMAR.matcher(all.substring(0, i));
            if (m.matches() || m.hitEnd()) {
                end = i;
            } else {
                break;
            }
        }
        int place = 0;
        for (String part : all.substring(0, end).split(";")) {
            Matcher m = ABOVE.matcher(part);
            if (m.find() && Integer.parseInt(m.group(1)) > 20) {
                return place + 1;
            }
            m = BELOW.matcher(part);
            if (m.find()) {
                int n = Integer.parseInt(m.group(2));
                if (n < 1 || n > 20 || n < Integer.parseInt(m.group(1))) {
                    return place + m.start(2);
                }
            }
            place += part.length() + 1;
        }
        if (end < all.length() || !GRAMMAR.matcher(all).matches()) {
            return end;
        }
        Q sum = ZERO;
        int dths = 1;
        for (String part : all.split(";")) {
            sum = sum.plus(shareOf(part));
            int below = shareOf(part).below.intValue();
            int more = dths;
            while (more % below != 0) {
                more += dths;
            }
            dths = more;
        }
        return sum.equals(ONE) && dths <= 24 ? NONE : all.length();
    }

    private static Q shareOf(String part) {
        String[] numbers = part.substring(1).split("/");
        return Q.of(Integer.parseInt(numbers[0]), Integer.parseInt(numbers[1]));
    }

    Q ifOne(int d, boolean has) {
        Q sum = ZERO;
        for (String part : text[d].toString().split(";")) {
            switch (part.charAt(0)) {
                case 't' -> sum = sum.plus(has ? shareOf(part) : ZERO);
                case 'o' -> sum = sum.plus(has ? ZERO : shareOf(part));
                case 'y' -> sum = sum.plus(shareOf(part));
                case 'u' -> sum = sum.plus(shareOf(part).times(Q.of(other, 24)));
                default -> { }
            }
        }
        return sum;
    }

    boolean tells(int d) {
        return !ifOne(d, true).equals(ifOne(d, false));
    }

    int unit(int d) {
        if (!in(d, 0, 3)) {
            return BAD;
        }
        if (fault(d) != NONE) {
            return NOT;
        }
        int u = 1;
        while (!Q.of(u, 1).times(ifOne(d, true)).below.equals(BigInteger.ONE)
                || !Q.of(u, 1).times(ifOne(d, false)).below.equals(BigInteger.ONE)) {
            u++;
        }
        return u;
    }

    long saysYes(int d, int has, int what) {
        if (!in(d, 0, 3) || !in(has, 0, 1) || !in(what, 0, 1)) {
            return refused(BAD);
        }
        return fault(d) != NONE ? refused(NOT) : ifOne(d, has == 1).told(what);
    }

    // ---- people, answers

    boolean known(int i) {
        int view = asOf == NONE ? day : asOf;
        return answers.get(i).day <= view && !(taken.get(i) != NONE && taken.get(i) <= view);
    }

    int answer(int p, int d, int yes) {
        if (!in(p, 0, 23) || !in(d, 0, 3) || !in(yes, 0, 1)) {
            return BAD;
        }
        if (fault(d) != NONE) {
            return NOT;
        }
        if (answers.size() == 120) {
            return FULL;
        }
        answers.add(new Answer(p, d, yes, day));
        taken.add(NONE);
        return answers.size() - 1;
    }

    int read(int s, int d) {
        if (!in(s, 0, 3) || !in(d, 0, 3)) {
            return BAD;
        }
        if (sheets[s] == null) {
            return found(1);
        }
        if (fault(d) != NONE) {
            return NOT;
        }
        int many = 0;
        while (2 * many + 1 < size(s) && answer(item(s, 2 * many), d, item(s, 2 * many + 1)) >= 0) {
            many++;
        }
        return many;
    }

    int about(int i, int what) {
        if (!in(i, 0, answers.size() - 1) || !in(what, 0, 5)) {
            return BAD;
        }
        Answer a = answers.get(i);
        return new int[] {a.person, a.design, a.yes, a.day, taken.get(i), known(i) ? 1 : 0}[what];
    }

    int poll(int g, int d, int what) {
        if (!in(g, 0, 3) || !in(d, 0, 3) || !in(what, 0, 1)) {
            return BAD;
        }
        int many = 0;
        for (int p = 0; p < 24; p++) {
            for (int i = 0; i < answers.size() && groups[p] == g; i++) {
                Answer a = answers.get(i);
                if (a.person == p && a.design == d && known(i)) {
                    many += what == 0 ? 1 : a.yes;
                    break;
                }
            }
        }
        return many;
    }

    // ---- how many have it

    long share(int g, int d, int what, boolean scatter) {
        if (!in(g, 0, 3) || !in(d, 0, 3) || !in(what, 0, 1)) {
            return refused(BAD);
        }
        int n = poll(g, d, 0);
        if (fault(d) != NONE || !tells(d) || n < (scatter ? 2 : 1)) {
            return refused(NOT);
        }
        Q yes = Q.of(poll(g, d, 1), n);
        Q difference = ifOne(d, true).minus(ifOne(d, false));
        if (scatter) {
            return yes.times(ONE.minus(yes)).by(Q.of(n - 1, 1)).by(difference.times(difference)).told(what);
        }
        return yes.minus(ifOne(d, false)).by(difference).told(what);
    }

    int lotsRefusal(int g, int d, int k) {
        if (!in(g, 0, 3) || !in(d, 0, 3) || k < 0) {
            return BAD;
        }
        if (fault(d) != NONE || k > poll(g, d, 0)) {
            return NOT;
        }
        return poll(g, d, 0) > 12 || unit(d) > 24 ? FULL : 0;
    }

    private static BigInteger choose(int n, int k) {
        BigInteger c = BigInteger.ONE;
        for (int i = 0; i < k; i++) {
            c = c.multiply(BigInteger.valueOf(n - i)).divide(BigInteger.valueOf(i + 1));
        }
        return k < 0 || k > n ? BigInteger.ZERO : c;
    }

    private BigInteger waysOf(int d, boolean has, int people, int yes) {
        if (yes < 0 || yes > people) {
            return BigInteger.ZERO;
        }
        BigInteger u = BigInteger.valueOf(unit(d));
        BigInteger a = ifOne(d, has).times(Q.of(unit(d), 1)).above;
        return choose(people, yes).multiply(a.pow(yes)).multiply(u.subtract(a).pow(people - yes));
    }

    private BigInteger ways(int d, int n, int k, int y) {
        BigInteger sum = BigInteger.ZERO;
        for (int j = 0; j <= k; j++) {
            sum = sum.add(waysOf(d, true, k, j).multiply(waysOf(d, false, n - k, y - j)));
        }
        return sum;
    }

    long ways(int g, int d, int k) {
        int r = lotsRefusal(g, d, k);
        return r != 0 ? refused(r) : ways(d, poll(g, d, 0), k, poll(g, d, 1)).longValueExact();
    }

    int likely(int g, int d) {
        int r = lotsRefusal(g, d, 0);
        int best = 0;
        for (int k = 1; r == 0 && k <= poll(g, d, 0); k++) {
            best = ways(g, d, k) > ways(g, d, best) ? k : best;
        }
        return r != 0 ? r : best;
    }

    int span(int g, int d, int c, int end) {
        if (!in(c, 1, 100) || !in(end, 0, 1)) {
            return BAD;
        }
        int r = lotsRefusal(g, d, 0);
        if (r != 0) {
            return r;
        }
        BigInteger most = BigInteger.valueOf(ways(g, d, likely(g, d))).multiply(BigInteger.valueOf(c));
        List<Integer> fit = new ArrayList<>();
        for (int k = 0; k <= poll(g, d, 0); k++) {
            if (BigInteger.valueOf(ways(g, d, k)).multiply(BigInteger.valueOf(100)).compareTo(most) >= 0) {
                fit.add(k);
            }
        }
        return fit.get(end == 0 ? 0 : fit.size() - 1);
    }

    private int millionths(int d, int n, int k, int from, int to) {
        BigInteger sum = BigInteger.ZERO;
        for (int y = from; y <= to; y++) {
            sum = sum.add(ways(d, n, k, y));
        }
        return sum.multiply(BigInteger.valueOf(1000000)).divide(BigInteger.valueOf(unit(d)).pow(n)).intValueExact();
    }

    int atLeast(int g, int d, int k) {
        int r = lotsRefusal(g, d, k);
        return r != 0 ? r : millionths(d, poll(g, d, 0), k, poll(g, d, 1), poll(g, d, 0));
    }

    int kept(int g, int d) {
        int r = lotsRefusal(g, d, 0);
        if (r == BAD || r == NOT) {
            return r;
        }
        int n = poll(g, d, 0);
        if (!tells(d) || n == 0) {
            return NOT;
        }
        int none = ifOne(d, true).compare(ifOne(d, false)) > 0 ? 0 : n;
        return r != 0 ? r : millionths(d, n, none, 0, poll(g, d, 1));
    }

    // ---- given away

    /** Null: it is NONE. */
    Q away(int d, int yes) {
        Q has = yes == 1 ? ifOne(d, true) : ONE.minus(ifOne(d, true));
        Q hasNot = yes == 1 ? ifOne(d, false) : ONE.minus(ifOne(d, false));
        return hasNot.isZero() ? null : has.by(hasNot);
    }

    long away(int d, int yes, int what) {
        if (!in(d, 0, 3) || !in(yes, 0, 1) || !in(what, 0, 1)) {
            return refused(BAD);
        }
        return fault(d) != NONE || away(d, yes) == null ? refused(NOT) : away(d, yes).told(what);
    }

    private static boolean full(Q q) {
        return q.above.compareTo(MOST) > 0 || q.below.compareTo(MOST) > 0;
    }

    /** An Integer (NOT for a fault, NONE, FULL) or a Q. */
    Object given(int p) {
        int[] many = new int[4];
        List<Q> factors = new ArrayList<>();
        for (int i = 0; i < answers.size(); i++) {
            Answer a = answers.get(i);
            if (a.person == p && known(i)) {
                if (fault(a.design) != NONE) {
                    return NOT;
                }
                many[a.design]++;
                if (many[a.design] <= 2) {
                    factors.add(away(a.design, a.yes));
                }
            }
        }
        if (factors.contains(null)) {
            return NONE;
        }
        Q all = ONE;
        for (Q q : factors) {
            all = all.times(q);
            if (full(all)) {
                return FULL;
            }
        }
        return all;
    }

    long given(int p, int what) {
        if (!in(p, 0, 23) || !in(what, 0, 1)) {
            return refused(BAD);
        }
        Object g = given(p);
        return g instanceof Q q ? q.told(what) : g.equals(FULL) ? refused(FULL) : refused(NOT);
    }

    long has(int p, int s, int what) {
        if (!in(p, 0, 23) || !in(s, 1, 99) || !in(what, 0, 1)) {
            return refused(BAD);
        }
        Object g = given(p);
        if (g instanceof Q q) {
            Q times = q.times(Q.of(s, 1));
            return times.by(times.plus(Q.of(100 - s, 1))).told(what);
        }
        return g.equals(NONE) ? 1 : refused((Integer) g);
    }

    /** Null: it is NONE. */
    Q exposed(int d) {
        Q most = null;
        for (int yes = 0; yes < 2; yes++) {
            Q q = away(d, yes);
            if (q == null || q.isZero()) {
                return null;
            }
            most = most == null || q.compare(most) > 0 ? q : most;
            most = ONE.by(q).compare(most) > 0 ? ONE.by(q) : most;
        }
        return most;
    }

    long exposed(int d, int what) {
        if (!in(d, 0, 3) || !in(what, 0, 1)) {
            return refused(BAD);
        }
        return fault(d) != NONE || exposed(d) == null ? refused(NOT) : exposed(d).told(what);
    }

    int may(int p, int d) {
        if (!in(p, 0, 23) || !in(d, 0, 3)) {
            return BAD;
        }
        if (fault(d) != NONE) {
            return NOT;
        }
        int by = 0;
        for (int i = 0; i < answers.size(); i++) {
            by += known(i) && answers.get(i).person == p && answers.get(i).design == d ? 1 : 0;
        }
        if (!tells(d) || exposed(d) == null || by >= 2 || !(given(p) instanceof Q)) {
            return 0;
        }
        for (int yes = 0; yes < 2; yes++) {
            Q then = ((Q) given(p)).times(away(d, yes));
            if (full(then) || then.isZero() || then.compare(Q.of(limit, 1)) > 0 || ONE.by(then).compare(Q.of(limit, 1)) > 0) {
                return 0;
            }
        }
        return 1;
    }

    // ---- sought, two questions

    int best(int most, int s, int what) {
        if (!in(most, 2, 30) || !in(s, 0, 100) || !in(what, 0, 1)) {
            return BAD;
        }
        Q least = null;
        int[] best = {NOT, NOT};
        for (int a = 1; a <= 23; a++) {
            for (int b = 1; b < a; b++) {
                Q exposed = Q.of(a, b);
                Q byNo = Q.of(24 - b, 24 - a);
                exposed = byNo.compare(exposed) > 0 ? byNo : exposed;
                Q r = Q.of(a, 24).times(Q.of(s, 100)).plus(Q.of(b, 24).times(Q.of(100 - s, 100)));
                Q scatter = r.times(ONE.minus(r)).by(Q.of(a - b, 24)).by(Q.of(a - b, 24));
                if (exposed.compare(Q.of(most, 1)) <= 0 && (least == null || scatter.compare(least) < 0)) {
                    least = scatter;
                    best = new int[] {a, b};
                }
            }
        }
        return best[what];
    }

    long parted(int s, int first, int second, int which, int what) {
        if (!in(s, 0, 3) || !in(first, 0, 3) || !in(second, 0, 3) || !in(which, 0, 3) || !in(what, 0, 1)) {
            return refused(BAD);
        }
        if (sheets[s] == null) {
            return refused(found(1));
        }
        if (size(s) < 4) {
            return refused(found(2));
        }
        if (fault(first) != NONE || fault(second) != NONE || !tells(first) || !tells(second)) {
            return refused(NOT);
        }
        int all = 0;
        for (int i = 0; i < 4; i++) {
            if (!in(item(s, i), 0, 999)) {
                return refused(NOT);
            }
            all += item(s, i);
        }
        if (all == 0) {
            return refused(NOT);
        }
        Q[] shares = new Q[4];
        for (int i = 0; i < 4; i++) {
            shares[i] = Q.of(item(s, i), all);
        }
        // first by the one: among those who say yes to the second, and those who say no
        for (int i = 0; i < 2; i++) {
            Q sum = shares[i].plus(shares[i + 2]);
            shares[i] = parted(shares[i], sum, first);
            shares[i + 2] = sum.minus(shares[i]);
        }
        for (int i = 0; i < 4; i += 2) {
            Q sum = shares[i].plus(shares[i + 1]);
            shares[i] = parted(shares[i], sum, second);
            shares[i + 1] = sum.minus(shares[i]);
        }
        return shares[which].told(what);
    }

    private Q parted(Q yes, Q sum, int d) {
        return yes.minus(sum.times(ifOne(d, false))).by(ifOne(d, true).minus(ifOne(d, false)));
    }

    // ---- sheets: rows of Java's own types, whose exceptions are the findings

    int size(int s) {
        return java.lang.reflect.Array.getLength(sheets[s]);
    }

    int item(int s, int i) {
        return ((Number) java.lang.reflect.Array.get(sheets[s], i)).intValue();
    }

    int sheet(int s, int type, int n) {
        if (!in(s, 0, 3) || !in(type, 0, 2) || n > 60) {
            return BAD;
        }
        try {
            sheets[s] = type == 0 ? new byte[n] : type == 1 ? new short[n] : (Object) new int[n];
            return n;
        } catch (NegativeArraySizeException e) {
            return found(5);
        }
    }

    int lose(int s) {
        if (!in(s, 0, 3)) {
            return BAD;
        }
        if (sheets[s] == null) {
            return found(1);
        }
        int n = size(s);
        sheets[s] = null;
        return n;
    }

    private int finding(int s, int type, int i, boolean puts, int v) {
        try {
            if (sheets[s] == null) {
                throw new NullPointerException();
            }
            if (type == 0) {
                byte[] row = (byte[]) sheets[s];
                row[i] = puts ? (byte) v : row[i];
            } else if (type == 1) {
                short[] row = (short[]) sheets[s];
                row[i] = puts ? (short) v : row[i];
            } else {
                int[] row = (int[]) sheets[s];
                row[i] = puts ? v : row[i];
            }
            return 0;
        } catch (NullPointerException e) {
            return 1;
        } catch (ArrayIndexOutOfBoundsException e) {
            return 2;
        } catch (ClassCastException e) {
            return 3;
        }
    }

    int put(int s, int type, int i, int v) {
        if (!in(s, 0, 3) || !in(type, 0, 2)) {
            return BAD;
        }
        int f = finding(s, type, i, true, v);
        return f == 0 ? 1 : found(f);
    }

    int get(int s, int type, int i) {
        if (!in(s, 0, 3) || !in(type, 0, 2)) {
            return Integer.MIN_VALUE;
        }
        int f = finding(s, type, i, false, 0);
        if (f != 0) {
            found(f);
            return Integer.MIN_VALUE;
        }
        return item(s, i);
    }

    int copy(int s, int i, int t, int j, int n) {
        if (!in(s, 0, 3) || !in(t, 0, 3)) {
            return BAD;
        }
        try {
            System.arraycopy(sheets[s], i, sheets[t], j, n);
            return 1;
        } catch (NullPointerException e) {
            return found(1);
        } catch (ArrayStoreException e) {
            return found(4);
        } catch (IndexOutOfBoundsException e) {
            return found(2);
        }
    }

    int write(int d, int s) {
        if (!in(d, 0, 3) || !in(s, 0, 3)) {
            return BAD;
        }
        if (sheets[s] == null) {
            return found(1);
        }
        if (fault(d) != NONE) {
            return NOT;
        }
        int p = 0;
        for (; p < 24 && p < size(s); p++) {
            int type = sheets[s] instanceof byte[] ? 0 : sheets[s] instanceof short[] ? 1 : 2;
            put(s, type, p, may(p, d));
        }
        return p;
    }

    int count(int what) {
        int bytes = 0;
        for (StringBuilder t : text) {
            bytes += t.length();
        }
        int known = 0;
        int yes = 0;
        for (int i = 0; i < answers.size(); i++) {
            known += known(i) ? 1 : 0;
            yes += known(i) && answers.get(i).yes == 1 ? 1 : 0;
        }
        int[] counts = {day, answers.size(), known, yes, bytes, other, limit, asOf, finding};
        return in(what, 0, 8) ? counts[what] : BAD;
    }

    long digest() {
        BigInteger h = BigInteger.valueOf(17);
        List<Long> each = new ArrayList<>();
        for (int what = 0; what <= 7; what++) {
            each.add((long) count(what));
        }
        for (int d = 0; d < 4; d++) {
            each.addAll(List.of((long) fault(d), saysYes(d, 1, 0), saysYes(d, 1, 1), saysYes(d, 0, 0), saysYes(d, 0, 1),
                    (long) unit(d)));
        }
        for (int g = 0; g < 4; g++) {
            for (int d = 0; d < 4; d++) {
                each.addAll(List.of((long) poll(g, d, 0), (long) poll(g, d, 1), (long) likely(g, d)));
            }
        }
        for (int p = 0; p < 24; p++) {
            each.add(given(p, 0));
        }
        for (long e : each) {
            h = h.multiply(BigInteger.valueOf(31)).add(BigInteger.valueOf(e));
        }
        return h.longValue();
    }
}
