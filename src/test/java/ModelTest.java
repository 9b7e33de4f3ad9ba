import java.util.Random;

/** Long runs of calls, the same each time, in which the class must answer as the model does. */
public final class ModelTest {
    /** A step of a run makes so many calls at most: a text is wiped, typed anew, and looked at. */
    private static final int RUNS = 300, CALLS = 512, MOST_AT_ONCE = 40;
    private static final String[] TEXTS = {
        "t2/3;y1/6;n1/6", "t1/1", "o1/1", "y1/1", "n1/1", "u1/1", "t1/2;u1/2", "o3/4;t1/4", "t9/10;o1/10", "t19/20;y1/20",
        "t1/2;o9/20;u1/20", "o1/2;t9/20;u1/20", "t3/8;y1/3;n1/6;n1/8", "t1/2;y1/4;n1/4", "t7/12;o5/12", "t11/19;u8/19",
        "t1/4;o1/4;y1/4;n1/4", "t13/17;n4/17", "o1/2;n1/2", "t1/2;y1/2", "t5/20;o3/12;y10/20", "t10/11;u1/11",
        "t1/16;y1/3;n1/3;o3/16;u1/12", "t1/2", "t1/2;", "t1/2;y1/3", "t3/2", "t21/21", "t1/0", "t01/02;y2/04", "x", "t1/2,y1/2"
    };
    private static final String SIGNS = "toynu0123456789///;;;112";
    private static final int[] EDGES = {Integer.MIN_VALUE, -2, -1, 4, 24, 25, 60, 61, 100, 101, 120, 1000, Integer.MAX_VALUE};

    private final Random random;
    private final SecretLots x = new SecretLots();
    private final Model m = new Model();

    private ModelTest(int seed) {
        random = new Random(seed);
    }

    public static void main(String[] args) {
        for (int seed = 0; seed < RUNS; seed++) {
            ModelTest run = new ModelTest(seed);
            int first = Check.held() - (seed % 3 == 0 ? run.setUp() : 0);
            while (Check.held() - first < CALLS - MOST_AT_ONCE) {
                run.call("run " + seed + " call " + (Check.held() - first) + " ");
            }
        }
        Check.end("ModelTest");
    }

    /** All designs that tell, so that more of the run is not refused. */
    private int setUp() {
        int calls = 0;
        for (int d = 0; d < 4; d++) {
            for (char c : TEXTS[random.nextInt(22)].toCharArray()) {
                x.type(d, c);
                m.text[d].append(c);
                calls++;
            }
        }
        return calls;
    }

    /** One of 0 to many - 1, seldom something else. */
    private int some(int many) {
        return random.nextInt(40) == 0 ? EDGES[random.nextInt(EDGES.length)] : random.nextInt(many);
    }

    private void call(String run) {
        int kind = random.nextInt(100);
        if (kind < 4) {
            designCalls(run);
        } else if (kind < 50) {
            peopleCalls(run, random.nextInt(30));
        } else if (kind < 65) {
            howMany(run, random.nextInt(7));
        } else if (kind < 80) {
            givenAway(run, random.nextInt(8));
        } else if (kind < 97) {
            sheetCalls(run, random.nextInt(11));
        } else {
            Check.due(run + "digest", x.digest(), m.digest());
        }
    }

    private void designCalls(String run) {
        int d = some(4);
        int v = some(25);
        switch (random.nextInt(4)) {
            case 0 -> {
                int due = v >= 0 && v <= 24 ? m.other : SecretLots.BAD;
                m.other = v >= 0 && v <= 24 ? v : m.other;
                Check.due(run + "other " + v, x.other(v), due);
            }
            case 1 -> typeSome(run, d, SIGNS.charAt(random.nextInt(SIGNS.length())));
            default -> {
                boolean is = d >= 0 && d < 4;
                Check.due(run + "wipe " + d, x.wipe(d), is ? m.text[d].length() : SecretLots.BAD);
                if (is) {
                    m.text[d].setLength(0);
                }
                for (char c : TEXTS[random.nextInt(TEXTS.length)].toCharArray()) {
                    typeSome(run, d, c);
                }
            }
        }
        Check.due(run + "fault " + d, x.fault(d), d >= 0 && d < 4 ? m.fault(d) : SecretLots.BAD);
        Check.due(run + "unit " + d, x.unit(d), m.unit(d));
        int has = some(2);
        int what = some(2);
        Check.due(run + "saysYes " + d, x.saysYes(d, has, what), m.saysYes(d, has, what));
    }

    private void typeSome(String run, int d, int b) {
        int due = SecretLots.BAD;
        if (d >= 0 && d < 4) {
            due = m.text[d].length() == 60 ? SecretLots.FULL : m.text[d].append((char) b).length();
        }
        Check.due(run + "type " + d + " " + b, x.type(d, b), due);
    }

    private void peopleCalls(String run, int kind) {
        int p = some(24);
        int d = some(4);
        int v = some(4);
        int yes = some(2);
        switch (kind) {
            case 0 -> {
                int n = some(9);
                boolean is = n >= 1 && n <= 100 && m.day + n <= 399;
                m.day += is ? n : 0;
                Check.due(run + "pass " + n, x.pass(n), is ? m.day : SecretLots.BAD);
            }
            case 1, 2, 3 -> {
                boolean is = p >= 0 && p < 24 && v >= 0 && v < 4;
                Check.due(run + "group " + p + " " + v, x.group(p, v), is ? m.groups[p] : SecretLots.BAD);
                if (is) {
                    m.groups[p] = v;
                }
            }
            case 4, 5, 6 -> {
                int i = some(m.answers.size() + 1);
                boolean is = i >= 0 && i < m.answers.size();
                int due = !is ? SecretLots.BAD : m.taken.get(i) != -1 ? SecretLots.NOT : 1;
                if (due == 1) {
                    m.taken.set(i, m.day);
                }
                Check.due(run + "takeBack " + i, x.takeBack(i), due);
            }
            case 7, 8 -> {
                int i = some(m.answers.size() + 1);
                int what = some(6);
                Check.due(run + "about " + i + " " + what, x.about(i, what), m.about(i, what));
            }
            case 9 -> {
                int day = random.nextBoolean() ? -1 : some(m.day + 2);
                boolean is = day >= -1 && day <= m.day;
                Check.due(run + "asOf " + day, x.asOf(day), is ? m.asOf : SecretLots.BAD);
                m.asOf = is ? day : m.asOf;
            }
            case 10, 11 -> Check.due(run + "poll", x.poll(v, d, yes), m.poll(v, d, yes));
            default -> Check.due(run + "answer " + p + " " + d + " " + yes, x.answer(p, d, yes), m.answer(p, d, yes));
        }
    }

    private void howMany(String run, int kind) {
        int g = some(4);
        int d = some(4);
        int k = some(7);
        int c = 1 + some(100);
        int what = some(2);
        String of = run + g + " " + d + " " + k + " " + c + " " + what;
        switch (kind) {
            case 0 -> Check.due(of + " share", x.share(g, d, what), m.share(g, d, what, false));
            case 1 -> Check.due(of + " scatter", x.scatter(g, d, what), m.share(g, d, what, true));
            case 2 -> Check.due(of + " ways", x.ways(g, d, k), m.ways(g, d, k));
            case 3 -> Check.due(of + " likely", x.likely(g, d), m.likely(g, d));
            case 4 -> Check.due(of + " span", x.span(g, d, c, what), m.span(g, d, c, what));
            case 5 -> Check.due(of + " atLeast", x.atLeast(g, d, k), m.atLeast(g, d, k));
            default -> Check.due(of + " kept", x.kept(g, d), m.kept(g, d));
        }
    }

    private void givenAway(String run, int kind) {
        int p = some(24);
        int d = some(4);
        int s = some(101);
        int what = some(2);
        int yes = some(2);
        String of = run + p + " " + d + " " + s + " " + what + " " + yes;
        switch (kind) {
            case 0 -> Check.due(of + " away", x.away(d, yes, what), m.away(d, yes, what));
            case 1 -> Check.due(of + " given", x.given(p, what), m.given(p, what));
            case 2 -> Check.due(of + " has", x.has(p, s, what), m.has(p, s, what));
            case 3 -> Check.due(of + " exposed", x.exposed(d, what), m.exposed(d, what));
            case 4 -> {
                int l = random.nextBoolean() ? some(30) : 1 + some(1000);
                boolean is = l >= 1 && l <= 1000;
                Check.due(of + " limit", x.limit(l), is ? m.limit : SecretLots.BAD);
                m.limit = is ? l : m.limit;
            }
            case 5 -> {
                int limit = 2 + some(29);
                if (random.nextInt(10) == 0) {
                    Check.due(of + " best", x.best(limit, s, what), m.best(limit, s, what));
                }
            }
            default -> Check.due(of + " may", x.may(p, d), m.may(p, d));
        }
    }

    private void sheetCalls(String run, int kind) {
        int s = some(4);
        int t = some(4);
        int type = random.nextInt(3) > 0 ? 2 : some(3);
        int i = some(12);
        int j = some(12);
        int n = some(8);
        int d = some(4);
        int what = some(2);
        int v = random.nextInt(3) > 0 ? some(2 + random.nextInt(23)) : random.nextInt() >> random.nextInt(32);
        String of = run + s + " " + t + " " + type + " " + i + " " + j + " " + n + " " + d + " " + v;
        switch (kind) {
            case 0 -> {
                int size = some(12);
                Check.due(of + " sheet", x.sheet(s, type, size), m.sheet(s, type, size));
            }
            case 1 -> {
                if (random.nextInt(4) == 0) {
                    Check.due(of + " lose", x.lose(s), m.lose(s));
                }
            }
            case 2, 3, 4 -> Check.due(of + " put", x.put(s, type, i, v), m.put(s, type, i, v));
            case 5 -> Check.due(of + " get", x.get(s, type, i), m.get(s, type, i));
            case 6 -> Check.due(of + " copy", x.copy(s, i, t, j, n), m.copy(s, i, t, j, n));
            case 7 -> Check.due(of + " write", x.write(d, s), m.write(d, s));
            case 8 -> Check.due(of + " read", x.read(s, d), m.read(s, d));
            case 9 -> {
                int first = some(4);
                int which = some(4);
                Check.due(of + " parted", x.parted(s, first, d, which, what), m.parted(s, first, d, which, what));
            }
            default -> {
                int c = some(9);
                Check.due(of + " count", x.count(c), m.count(c));
            }
        }
    }
}
