/**
 * "Refusals, the first that fits, in the order told at each act ... They change nothing (FINDINGS but count() 8).
 * Where the answer is a long, a refusal -x is the least long and x more." Each act that has more than one kind of
 * refusal has a method of its own here: each refusal alone, and each two of them at once that can be.
 */
public final class RefusalsTest {
    private static final int BAD = -2, NOT = -3, FULL = -4, LEAST = Integer.MIN_VALUE;
    private static final int NULL = 1, INDEX = 2, CAST = 3, STORE = 4, SIZE = 5;
    private static final long BAD_LONG = -9223372036854775806L, NOT_LONG = -9223372036854775805L, FULL_LONG = -9223372036854775804L;
    private static final long NULL_LONG = -9223372036854775797L, INDEX_LONG = -9223372036854775796L;
    /** Designs of mixed(). */
    private static final int RIGHT = 0, FAULTY = 1, SAME = 2, WIDE = 3;
    /** Sheets of mixed(). */
    private static final int BYTES = 0, SHORTS = 1, INTS = 2, LOST = 3;

    public static void main(String[] args) {
        type();
        faultOfWhatWasRight();
        saysYes();
        unit();
        answer();
        read();
        takeBack();
        share();
        scatter();
        ways();
        likely();
        span();
        atLeast();
        away();
        given();
        has();
        exposed();
        may();
        parted();
        partedOfCounts();
        kept();
        sheet();
        lose();
        put();
        get();
        copy();
        write();
        Check.end("RefusalsTest");
    }

    /** BAD; FULL. */
    private static void type() {
        Unchanged.State state = () -> {
            SecretLots x = Check.with("", States.WARNER);
            for (int i = 0; i < 60; i++) {
                x.type(0, i < 59 ? '0' : 't');
            }
            return x;
        };
        Unchanged.refused("type of the 61st byte: FULL", state, x -> x.type(0, 't'), FULL);
        Unchanged.refused("type of the 61st byte 256: BAD ahead of FULL", state, x -> x.type(0, 256), BAD);
        Unchanged.refused("type of the 61st byte -1: BAD ahead of FULL", state, x -> x.type(0, -1), BAD);
    }

    /** "NOT (a FAULT of the DESIGN that is asked ..)": also of one that was right, and by which all was asked before. */
    private static void faultOfWhatWasRight() {
        for (String more : new String[] {";", "x", "1", ";t1/1", ";y1/20"}) {
            Unchanged.State state = () -> {
                SecretLots x = States.ready();
                Check.text(x, 2, more);
                return x;
            };
            String behind = " of what was right, and " + more + " behind it";
            Unchanged.refused("saysYes" + behind, state, x -> x.saysYes(2, 1, 0), NOT_LONG);
            Unchanged.refused("unit" + behind, state, x -> x.unit(2), NOT);
            Unchanged.refused("answer" + behind, state, x -> x.answer(0, 2, 1), NOT);
            Unchanged.refused("read" + behind, state, x -> x.read(0, 2), NOT);
            Unchanged.refused("share" + behind, state, x -> x.share(1, 2, 0), NOT_LONG);
            Unchanged.refused("scatter" + behind, state, x -> x.scatter(1, 2, 0), NOT_LONG);
            Unchanged.refused("ways" + behind, state, x -> x.ways(1, 2, 1), NOT_LONG);
            Unchanged.refused("likely" + behind, state, x -> x.likely(1, 2), NOT);
            Unchanged.refused("span" + behind, state, x -> x.span(1, 2, 50, 1), NOT);
            Unchanged.refused("atLeast" + behind, state, x -> x.atLeast(1, 2, 1), NOT);
            Unchanged.refused("away by yes" + behind, state, x -> x.away(2, 1, 0), NOT_LONG);
            Unchanged.refused("away by no" + behind, state, x -> x.away(2, 0, 1), NOT_LONG);
            Unchanged.refused("given" + behind, state, x -> x.given(1, 0), NOT_LONG);
            Unchanged.refused("has" + behind, state, x -> x.has(1, 50, 0), NOT_LONG);
            Unchanged.refused("exposed" + behind, state, x -> x.exposed(2, 0), NOT_LONG);
            Unchanged.refused("may" + behind, state, x -> x.may(20, 2), NOT);
            Unchanged.refused("parted first" + behind, state, x -> x.parted(1, 2, 0, 0, 0), NOT_LONG);
            Unchanged.refused("parted second" + behind, state, x -> x.parted(1, 0, 2, 0, 0), NOT_LONG);
            Unchanged.refused("kept" + behind, state, x -> x.kept(1, 2), NOT);
            Unchanged.refused("write" + behind, state, x -> x.write(2, 0), NOT);
        }
    }

    /** BAD; NOT. */
    private static void saysYes() {
        Unchanged.refused("saysYes of a fault: NOT", States::mixed, x -> x.saysYes(FAULTY, 1, 0), NOT_LONG);
        Unchanged.refused("saysYes of has 2: BAD ahead of NOT", States::mixed, x -> x.saysYes(FAULTY, 2, 0), BAD_LONG);
        Unchanged.refused("saysYes of what 2: BAD ahead of NOT", States::mixed, x -> x.saysYes(FAULTY, 1, 2), BAD_LONG);
    }

    /** BAD; NOT. */
    private static void unit() {
        Unchanged.refused("unit of a fault: NOT", States::mixed, x -> x.unit(FAULTY), NOT);
        Unchanged.refused("unit of design 4: BAD", States::mixed, x -> x.unit(4), BAD);
    }

    /** BAD; NOT; FULL. */
    private static void answer() {
        Unchanged.refused("answer by a fault: NOT", States::mixed, x -> x.answer(0, FAULTY, 1), NOT);
        Unchanged.refused("answer of person 24 by a fault: BAD", States::mixed, x -> x.answer(24, FAULTY, 1), BAD);
        Unchanged.refused("answer 2 by a fault: BAD", States::mixed, x -> x.answer(0, FAULTY, 2), BAD);
        Unchanged.refused("the 121st answer: FULL", States::full, x -> x.answer(0, RIGHT, 1), FULL);
        Unchanged.refused("the 121st answer, by a wide one: FULL", States::full, x -> x.answer(23, WIDE, 0), FULL);
        Unchanged.refused("the 121st answer, by a fault: NOT", States::full, x -> x.answer(0, FAULTY, 1), NOT);
        Unchanged.refused("the 121st answer, of person -1: BAD", States::full, x -> x.answer(-1, RIGHT, 1), BAD);
        Unchanged.refused("the 121st answer, -1 by a fault: BAD", States::full, x -> x.answer(0, FAULTY, -1), BAD);
    }

    /** BAD; NULL; NOT. */
    private static void read() {
        Unchanged.found("read of a lost sheet: NULL", States::mixed, x -> x.read(LOST, RIGHT), -11, NULL);
        Unchanged.found("read of a lost sheet by a fault: NULL", States::mixed, x -> x.read(LOST, FAULTY), -11, NULL);
        Unchanged.refused("read by a fault: NOT", States::mixed, x -> x.read(INTS, FAULTY), NOT);
        Unchanged.refused("read of a lost sheet by design 4: BAD", States::mixed, x -> x.read(LOST, 4), BAD);
        Unchanged.refused("read of sheet 4 by a fault: BAD", States::mixed, x -> x.read(4, FAULTY), BAD);
        Unchanged.refused("read when all 120 are there: none", States::full, x -> x.read(1, RIGHT), 0);
    }

    /** BAD; NOT: it is already. */
    private static void takeBack() {
        Unchanged.refused("takeBack once more: NOT", States::mixed, x -> x.takeBack(1), NOT);
        Unchanged.refused("takeBack once more, though still known: NOT", States::mixed, x -> x.takeBack(7), NOT);
        Unchanged.refused("takeBack of one that is not there: BAD", States::mixed, x -> x.takeBack(15), BAD);
    }

    /** BAD; NOT: also if the DESIGN does not TELL, or N is 0. */
    private static void share() {
        Unchanged.refused("share by a fault: NOT", States::mixed, x -> x.share(0, FAULTY, 0), NOT_LONG);
        Unchanged.refused("share by one that does not tell: NOT", States::mixed, x -> x.share(0, SAME, 0), NOT_LONG);
        Unchanged.refused("share of nobody: NOT", States::mixed, x -> x.share(1, RIGHT, 0), NOT_LONG);
        Unchanged.refused("share of what 2, of nobody: BAD", States::mixed, x -> x.share(1, RIGHT, 2), BAD_LONG);
        Unchanged.refused("share of what 2, by a fault: BAD", States::mixed, x -> x.share(0, FAULTY, 2), BAD_LONG);
        Unchanged.refused("share of group 4, by a fault: BAD", States::mixed, x -> x.share(4, FAULTY, 0), BAD_LONG);
    }

    /** BAD; NOT: also if it does not TELL, or N is below 2. */
    private static void scatter() {
        Unchanged.refused("scatter by a fault: NOT", States::mixed, x -> x.scatter(0, FAULTY, 0), NOT_LONG);
        Unchanged.refused("scatter by one that does not tell: NOT", States::mixed, x -> x.scatter(0, SAME, 0), NOT_LONG);
        Unchanged.refused("scatter of nobody: NOT", States::mixed, x -> x.scatter(1, RIGHT, 0), NOT_LONG);
        Unchanged.refused("scatter of one: NOT", States::mixed, x -> x.scatter(2, RIGHT, 0), NOT_LONG);
        Unchanged.refused("scatter of what 2, of nobody: BAD", States::mixed, x -> x.scatter(1, RIGHT, 2), BAD_LONG);
        Unchanged.refused("scatter of group 4, by a fault: BAD", States::mixed, x -> x.scatter(4, FAULTY, 0), BAD_LONG);
    }

    /** BAD: k below 0; NOT: also k above N; FULL: N above 12, or it is WIDE. */
    private static void ways() {
        Unchanged.refused("ways of k above N: NOT", States::mixed, x -> x.ways(2, RIGHT, 2), NOT_LONG);
        Unchanged.refused("ways by a fault: NOT", States::mixed, x -> x.ways(0, FAULTY, 0), NOT_LONG);
        Unchanged.refused("ways of k -1, by a fault: BAD", States::mixed, x -> x.ways(0, FAULTY, -1), BAD_LONG);
        Unchanged.refused("ways by a wide one: FULL", States::mixed, x -> x.ways(0, WIDE, 0), FULL_LONG);
        Unchanged.refused("ways by a wide one, of nobody: FULL", States::mixed, x -> x.ways(1, WIDE, 0), FULL_LONG);
        Unchanged.refused("ways by a wide one, k above N: NOT", States::mixed, x -> x.ways(1, WIDE, 1), NOT_LONG);
        Unchanged.refused("ways by a wide one, k -1: BAD", States::mixed, x -> x.ways(0, WIDE, -1), BAD_LONG);
        Unchanged.refused("ways of 24 people: FULL", States::full, x -> x.ways(0, RIGHT, 24), FULL_LONG);
        Unchanged.refused("ways of 24 people, k 25: NOT", States::full, x -> x.ways(0, RIGHT, 25), NOT_LONG);
        Unchanged.refused("ways of 24 people, k -1: BAD", States::full, x -> x.ways(0, RIGHT, -1), BAD_LONG);
        Unchanged.refused("ways of 24 people by a fault: NOT", RefusalsTest::faultyThen, x -> x.ways(0, RIGHT, 0), NOT_LONG);
    }

    /** All 24 people were asked by design 0, which has a fault since then. */
    private static SecretLots faultyThen() {
        SecretLots x = States.full();
        x.type(RIGHT, ';');
        return x;
    }

    /** BAD; NOT; FULL. */
    private static void likely() {
        Unchanged.refused("likely by a fault: NOT", States::mixed, x -> x.likely(0, FAULTY), NOT);
        Unchanged.refused("likely of group 4 by a fault: BAD", States::mixed, x -> x.likely(4, FAULTY), BAD);
        Unchanged.refused("likely of group 4 by a wide one: BAD", States::mixed, x -> x.likely(4, WIDE), BAD);
        Unchanged.refused("likely by a wide one: FULL", States::mixed, x -> x.likely(0, WIDE), FULL);
        Unchanged.refused("likely of 24 people: FULL", States::full, x -> x.likely(0, RIGHT), FULL);
        Unchanged.refused("likely of 24 people by a fault: NOT", RefusalsTest::faultyThen, x -> x.likely(0, RIGHT), NOT);
    }

    /** BAD; NOT; FULL. */
    private static void span() {
        Unchanged.refused("span by a fault: NOT", States::mixed, x -> x.span(0, FAULTY, 1, 0), NOT);
        Unchanged.refused("span by 0, by a fault: BAD", States::mixed, x -> x.span(0, FAULTY, 0, 0), BAD);
        Unchanged.refused("span by 101, by a wide one: BAD", States::mixed, x -> x.span(0, WIDE, 101, 0), BAD);
        Unchanged.refused("span to end 2, by a fault: BAD", States::mixed, x -> x.span(0, FAULTY, 1, 2), BAD);
        Unchanged.refused("span to end -1, of 24 people: BAD", States::full, x -> x.span(0, RIGHT, 1, -1), BAD);
        Unchanged.refused("span by a wide one: FULL", States::mixed, x -> x.span(0, WIDE, 1, 0), FULL);
        Unchanged.refused("span of 24 people: FULL", States::full, x -> x.span(0, RIGHT, 1, 0), FULL);
        Unchanged.refused("span of 24 people by a fault: NOT", RefusalsTest::faultyThen, x -> x.span(0, RIGHT, 1, 0), NOT);
    }

    /** BAD: k below 0; NOT: also k above N; FULL. */
    private static void atLeast() {
        Unchanged.refused("atLeast of k above N: NOT", States::mixed, x -> x.atLeast(2, RIGHT, 2), NOT);
        Unchanged.refused("atLeast by a fault: NOT", States::mixed, x -> x.atLeast(0, FAULTY, 0), NOT);
        Unchanged.refused("atLeast of k -1, by a fault: BAD", States::mixed, x -> x.atLeast(0, FAULTY, -1), BAD);
        Unchanged.refused("atLeast by a wide one: FULL", States::mixed, x -> x.atLeast(0, WIDE, 0), FULL);
        Unchanged.refused("atLeast by a wide one, k above N: NOT", States::mixed, x -> x.atLeast(1, WIDE, 1), NOT);
        Unchanged.refused("atLeast of 24 people: FULL", States::full, x -> x.atLeast(0, RIGHT, 24), FULL);
        Unchanged.refused("atLeast of 24 people, k 25: NOT", States::full, x -> x.atLeast(0, RIGHT, 25), NOT);
        Unchanged.refused("atLeast of 24 people, k -1: BAD", States::full, x -> x.atLeast(0, RIGHT, -1), BAD);
        Unchanged.refused("atLeast of 24 by a fault: NOT", RefusalsTest::faultyThen, x -> x.atLeast(0, RIGHT, 0), NOT);
    }

    /** BAD; NOT: also NONE. */
    private static void away() {
        Unchanged.State state = () -> Check.with("t1/2;n1/2", States.FAULTY, "o1/2;y1/2");
        Unchanged.refused("away of a fault: NOT", state, x -> x.away(1, 1, 0), NOT_LONG);
        Unchanged.refused("away by yes that is NONE: NOT", state, x -> x.away(0, 1, 0), NOT_LONG);
        Unchanged.refused("away by no that is NONE: NOT", state, x -> x.away(2, 0, 1), NOT_LONG);
        Unchanged.refused("away of a fault by yes 2: BAD", state, x -> x.away(1, 2, 0), BAD_LONG);
        Unchanged.refused("away that is NONE, what 2: BAD", state, x -> x.away(0, 1, 2), BAD_LONG);
    }

    /** Person 0 and 2: FULL; 1: NONE and FULL; 3 and 4: NONE. */
    private static SecretLots muchGiven() {
        SecretLots x = Check.with("t12/13;u1/13", "t12/13;u1/13", "t12/13;u1/13", "t1/2;n1/2");
        x.other(1);
        for (int p = 0; p < 5; p++) {
            for (int i = 0; i < 6 && p < 3; i++) {
                x.answer(p, i / 2, 1);
            }
            if (p % 2 == 1 || p == 4) {
                x.answer(p, 3, 1);
            }
        }
        return x;
    }

    /** The same with a fault of design 0, by which people 0 to 2 were asked. */
    private static SecretLots muchGivenThenFaulty() {
        SecretLots x = muchGiven();
        x.answer(3, 0, 1);
        x.type(0, ';');
        return x;
    }

    /** BAD; NOT: a FAULT of a DESIGN by which a KNOWN ANSWER of it is, or NONE (ahead of FULL); FULL. */
    private static void given() {
        Unchanged.refused("given of six large ones: FULL", RefusalsTest::muchGiven, x -> x.given(0, 0), FULL_LONG);
        Unchanged.refused("given, NONE and FULL: NOT", RefusalsTest::muchGiven, x -> x.given(1, 0), NOT_LONG);
        Unchanged.refused("given, NONE: NOT", RefusalsTest::muchGiven, x -> x.given(4, 0), NOT_LONG);
        Unchanged.refused("given, a fault: NOT", RefusalsTest::muchGivenThenFaulty, x -> x.given(0, 0), NOT_LONG);
        Unchanged.refused("given, a fault and NONE: NOT", RefusalsTest::muchGivenThenFaulty, x -> x.given(3, 0), NOT_LONG);
        Unchanged.refused("given what 2, FULL: BAD", RefusalsTest::muchGiven, x -> x.given(0, 2), BAD_LONG);
        Unchanged.refused("given what 2, NONE: BAD", RefusalsTest::muchGiven, x -> x.given(4, 2), BAD_LONG);
        Unchanged.refused("given what 2, a fault: BAD", RefusalsTest::muchGivenThenFaulty, x -> x.given(0, 2), BAD_LONG);
        Unchanged.asked("given of one who was not asked", RefusalsTest::muchGivenThenFaulty, x -> x.given(5, 0), 1);
    }

    /** BAD; NOT: a FAULT as of given(); FULL: as given(), unless it is NONE. */
    private static void has() {
        Unchanged.refused("has of six large ones: FULL", RefusalsTest::muchGiven, x -> x.has(0, 50, 0), FULL_LONG);
        Unchanged.asked("has, NONE and FULL: 1 by", RefusalsTest::muchGiven, x -> x.has(1, 50, 0), 1);
        Unchanged.asked("has, NONE and FULL: by 1", RefusalsTest::muchGiven, x -> x.has(1, 1, 1), 1);
        Unchanged.asked("has, NONE: 1 by 1", RefusalsTest::muchGiven, x -> x.has(4, 99, 1), 1);
        Unchanged.refused("has, a fault: NOT", RefusalsTest::muchGivenThenFaulty, x -> x.has(2, 50, 0), NOT_LONG);
        Unchanged.refused("has, a fault and NONE: NOT", RefusalsTest::muchGivenThenFaulty, x -> x.has(3, 50, 0), NOT_LONG);
        Unchanged.refused("has by 0, FULL: BAD", RefusalsTest::muchGiven, x -> x.has(0, 0, 0), BAD_LONG);
        Unchanged.refused("has by 100, NONE: BAD", RefusalsTest::muchGiven, x -> x.has(4, 100, 0), BAD_LONG);
        Unchanged.refused("has what 2, a fault: BAD", RefusalsTest::muchGivenThenFaulty, x -> x.has(0, 50, 2), BAD_LONG);
    }

    /** BAD; NOT: also NONE. */
    private static void exposed() {
        Unchanged.refused("exposed of a fault: NOT", States::mixed, x -> x.exposed(FAULTY, 0), NOT_LONG);
        Unchanged.refused("exposed of a fault, what 2: BAD", States::mixed, x -> x.exposed(FAULTY, 2), BAD_LONG);
        Unchanged.State state = () -> Check.with("t1/2;n1/2");
        Unchanged.refused("exposed that is NONE: NOT", state, x -> x.exposed(0, 0), NOT_LONG);
        Unchanged.refused("exposed that is NONE, what -1: BAD", state, x -> x.exposed(0, -1), BAD_LONG);
    }

    /** Whether: 1, 0 (0 also where given() is refused). BAD; NOT. */
    private static void may() {
        Unchanged.refused("may by a fault: NOT", States::mixed, x -> x.may(0, FAULTY), NOT);
        Unchanged.refused("may of person 24 by a fault: BAD", States::mixed, x -> x.may(24, FAULTY), BAD);
        Unchanged.asked("may by one that does not tell", States::mixed, x -> x.may(20, SAME), 0);
        Unchanged.asked("may where given is FULL", RefusalsTest::muchGiven, x -> x.may(0, 2), 0);
        Unchanged.asked("may where given is NONE", RefusalsTest::muchGiven, x -> x.may(4, 0), 0);
        Unchanged.asked("may where given has a fault", RefusalsTest::muchGivenThenFaulty, x -> x.may(3, 1), 0);
        Unchanged.refused("may by a fault, where given is NONE: NOT", RefusalsTest::muchGivenThenFaulty, x -> x.may(4, 0), NOT);
        Unchanged.refused("may by a fault, where given is FULL: NOT", RefusalsTest::muchGivenThenFaulty, x -> x.may(0, 0), NOT);
    }

    /** BAD; NULL; INDEX; NOT: a FAULT, one that does not TELL .. (As the least long; NULL, INDEX as -11, -12.) */
    private static void parted() {
        Unchanged.State state = () -> {
            SecretLots x = Check.with(States.WARNER, States.FAULTY, States.SAME, States.OPPOSITE);
            Check.row(x, 0, 1, 2, 3, 4);
            Check.row(x, 1, 1, 2, 3);
            x.sheet(2, 1, 0);
            x.limit(7);
            x.put(0, 1, 0, 0);
            return x;
        };
        Unchanged.found("parted of a lost sheet: NULL", state, x -> x.parted(3, 0, 3, 0, 0), NULL_LONG, NULL);
        Unchanged.found("parted of a lost sheet by a fault: NULL", state, x -> x.parted(3, 1, 3, 0, 0), NULL_LONG, NULL);
        Unchanged.found("parted of three items: INDEX", state, x -> x.parted(1, 0, 3, 0, 0), INDEX_LONG, INDEX);
        Unchanged.found("parted of no items by a fault: INDEX", state, x -> x.parted(2, 0, 1, 0, 0), INDEX_LONG, INDEX);
        Unchanged.found("parted of three by the same: INDEX", state, x -> x.parted(1, 2, 2, 0, 0), INDEX_LONG, INDEX);
        Unchanged.refused("parted first by a fault: NOT", state, x -> x.parted(0, 1, 3, 0, 0), NOT_LONG);
        Unchanged.refused("parted then by a fault: NOT", state, x -> x.parted(0, 3, 1, 0, 0), NOT_LONG);
        Unchanged.refused("parted first by one that does not tell: NOT", state, x -> x.parted(0, 2, 3, 0, 0), NOT_LONG);
        Unchanged.refused("parted then by one that does not tell: NOT", state, x -> x.parted(0, 3, 2, 0, 0), NOT_LONG);
        Unchanged.refused("parted of a lost sheet by design 4: BAD", state, x -> x.parted(3, 4, 3, 0, 0), BAD_LONG);
        Unchanged.refused("parted of a lost sheet by second 4: BAD", state, x -> x.parted(3, 3, 4, 0, 0), BAD_LONG);
        Unchanged.refused("parted of a lost sheet, which 4: BAD", state, x -> x.parted(3, 0, 3, 4, 0), BAD_LONG);
        Unchanged.refused("parted of three items, what 2: BAD", state, x -> x.parted(1, 0, 3, 0, 2), BAD_LONG);
        Unchanged.refused("parted by a fault, which -1: BAD", state, x -> x.parted(0, 1, 3, -1, 0), BAD_LONG);
    }

    /** NOT: .. a count that may not be, all of them 0. */
    private static void partedOfCounts() {
        int[][] rows = {{-1, 2, 3, 4}, {1, -1, 3, 4}, {1, 2, -1, 4}, {1, 2, 3, -1}, {1000, 0, 0, 0}, {0, 1000, 0, 0},
            {0, 0, 1000, 0}, {0, 0, 0, 1000}, {0, 0, 0, 0}, {0, 0, 0, 0, 5}, {LEAST, 1, 1, 1}, {1, 1, 1, Integer.MAX_VALUE},
            {-5, 5, 0, 0}};
        for (int[] row : rows) {
            Unchanged.State state = () -> {
                SecretLots x = Check.with(States.WARNER, States.OPPOSITE);
                Check.row(x, 0, row);
                return x;
            };
            Unchanged.refused("parted of counts from " + row[0] + " to " + row[3], state, x -> x.parted(0, 0, 1, 3, 1), NOT_LONG);
            Unchanged.refused("the same, which 4", state, x -> x.parted(0, 0, 1, 4, 1), BAD_LONG);
        }
    }

    /** BAD; NOT: also if it does not TELL, or N is 0; FULL: N above 12, or it is WIDE. */
    private static void kept() {
        Unchanged.refused("kept by a fault: NOT", States::mixed, x -> x.kept(0, FAULTY), NOT);
        Unchanged.refused("kept by one that does not tell: NOT", States::mixed, x -> x.kept(0, SAME), NOT);
        Unchanged.refused("kept of nobody: NOT", States::mixed, x -> x.kept(1, RIGHT), NOT);
        Unchanged.refused("kept of nobody by a wide one: NOT", States::mixed, x -> x.kept(1, WIDE), NOT);
        Unchanged.refused("kept by a wide one: FULL", States::mixed, x -> x.kept(0, WIDE), FULL);
        Unchanged.refused("kept of group 4 by a fault: BAD", States::mixed, x -> x.kept(4, FAULTY), BAD);
        Unchanged.refused("kept of group -1 by a wide one: BAD", States::mixed, x -> x.kept(-1, WIDE), BAD);
        Unchanged.refused("kept of 24 people: FULL", States::full, x -> x.kept(0, RIGHT), FULL);
        Unchanged.refused("kept of 24 by one that does not tell: NOT", States::full, x -> x.kept(0, SAME), NOT);
        Unchanged.refused("kept of 24 people by a fault: NOT", RefusalsTest::faultyThen, x -> x.kept(0, RIGHT), NOT);
    }

    /** BAD: SHEET, TYPE, above 60; SIZE. */
    private static void sheet() {
        Unchanged.found("sheet of -1: SIZE", RefusalsTest::afterNull, x -> x.sheet(INTS, 2, -1), -15, SIZE);
        Unchanged.found("sheet of the least int: SIZE", RefusalsTest::afterNull, x -> x.sheet(LOST, 0, LEAST), -15, SIZE);
        Unchanged.refused("sheet of 61: BAD", RefusalsTest::afterNull, x -> x.sheet(INTS, 2, 61), BAD);
        Unchanged.refused("sheet 4 of -1: BAD", RefusalsTest::afterNull, x -> x.sheet(4, 2, -1), BAD);
        Unchanged.refused("sheet -1 of -1: BAD", RefusalsTest::afterNull, x -> x.sheet(-1, 2, -1), BAD);
        Unchanged.refused("sheet of type 3, of -1: BAD", RefusalsTest::afterNull, x -> x.sheet(INTS, 3, -1), BAD);
        Unchanged.refused("sheet of type -1, of -1: BAD", RefusalsTest::afterNull, x -> x.sheet(INTS, -1, -1), BAD);
    }

    /** The latest finding is NULL. */
    private static SecretLots afterNull() {
        SecretLots x = States.mixed();
        x.lose(LOST);
        return x;
    }

    /** BAD; NULL. */
    private static void lose() {
        Unchanged.found("lose of a lost sheet: NULL", States::mixed, x -> x.lose(LOST), -11, NULL);
        Unchanged.refused("lose of sheet 4: BAD", States::mixed, x -> x.lose(4), BAD);
    }

    /** BAD; NULL; CAST; INDEX. */
    private static void put() {
        Unchanged.found("put to a lost sheet: NULL", States::mixed, x -> x.put(LOST, 0, 0, 1), -11, NULL);
        Unchanged.found("put to a lost sheet, item -1: NULL", States::mixed, x -> x.put(LOST, 0, -1, 1), -11, NULL);
        Unchanged.found("put of shorts to bytes: CAST", States::mixed, x -> x.put(BYTES, 1, 0, 1), -13, CAST);
        Unchanged.found("put of ints to bytes: CAST", States::mixed, x -> x.put(BYTES, 2, 0, 1), -13, CAST);
        Unchanged.found("put of bytes to shorts: CAST", States::mixed, x -> x.put(SHORTS, 0, 0, 1), -13, CAST);
        Unchanged.found("put of ints to shorts: CAST", States::mixed, x -> x.put(SHORTS, 2, 0, 1), -13, CAST);
        Unchanged.found("put of bytes to ints: CAST", States::mixed, x -> x.put(INTS, 0, 0, 1), -13, CAST);
        Unchanged.found("put of shorts to ints: CAST", States::mixed, x -> x.put(INTS, 1, 0, 1), -13, CAST);
        Unchanged.found("put of shorts to bytes, item 5: CAST", States::mixed, x -> x.put(BYTES, 1, 5, 1), -13, CAST);
        Unchanged.found("put to item 5 of 5: INDEX", States::mixed, x -> x.put(BYTES, 0, 5, 1), -12, INDEX);
        Unchanged.found("put to item -1: INDEX", States::mixed, x -> x.put(SHORTS, 1, -1, 1), -12, INDEX);
        Unchanged.found("put to item 60: INDEX", States::mixed, x -> x.put(INTS, 2, 60, 1), -12, INDEX);
        Unchanged.refused("put of type 3 to a lost sheet: BAD", States::mixed, x -> x.put(LOST, 3, 0, 1), BAD);
        Unchanged.refused("put of type 3, item -1: BAD", States::mixed, x -> x.put(BYTES, 3, -1, 1), BAD);
        Unchanged.refused("put of type -1: BAD", States::mixed, x -> x.put(BYTES, -1, 0, 1), BAD);
    }

    /** BAD: the least int; so are NULL, CAST, INDEX (count() 8 tells). */
    private static void get() {
        Unchanged.found("get of a lost sheet: NULL", States::mixed, x -> x.get(LOST, 0, -1), LEAST, NULL);
        Unchanged.found("get of bytes as ints: CAST", States::mixed, x -> x.get(BYTES, 2, 0), LEAST, CAST);
        Unchanged.found("get of shorts as bytes, item 4: CAST", States::mixed, x -> x.get(SHORTS, 0, 4), LEAST, CAST);
        Unchanged.found("get of ints as shorts, item -1: CAST", States::mixed, x -> x.get(INTS, 1, -1), LEAST, CAST);
        Unchanged.found("get of item 4 of 4: INDEX", States::mixed, x -> x.get(SHORTS, 1, 4), LEAST, INDEX);
        Unchanged.found("get of item -1: INDEX", States::mixed, x -> x.get(BYTES, 0, -1), LEAST, INDEX);
        Unchanged.refused("get of a lost sheet as type 3: BAD", States::mixed, x -> x.get(LOST, 3, 0), LEAST);
        Unchanged.refused("get of item -1 as type -1: BAD", States::mixed, x -> x.get(BYTES, -1, -1), LEAST);
        Unchanged.asked("get", States::mixed, x -> x.get(SHORTS, 1, 0), -5);
    }

    /** BAD: the SHEETS; NULL: s, t; STORE; INDEX: below 0, not so many. */
    private static void copy() {
        Unchanged.found("copy of a lost sheet: NULL", States::mixed, x -> x.copy(LOST, 0, INTS, 0, 1), -11, NULL);
        Unchanged.found("copy to a lost sheet: NULL", States::mixed, x -> x.copy(INTS, 0, LOST, 0, 1), -11, NULL);
        Unchanged.found("copy of a lost sheet to itself: NULL", States::mixed, x -> x.copy(LOST, 0, LOST, 0, 0), -11, NULL);
        Unchanged.found("copy of -1 of a lost sheet: NULL", States::mixed, x -> x.copy(LOST, 0, INTS, 0, -1), -11, NULL);
        Unchanged.found("copy of bytes to shorts: STORE", States::mixed, x -> x.copy(BYTES, 0, SHORTS, 0, 1), -14, STORE);
        Unchanged.found("copy of shorts to ints: STORE", States::mixed, x -> x.copy(SHORTS, 0, INTS, 0, 1), -14, STORE);
        Unchanged.found("copy of ints to bytes: STORE", States::mixed, x -> x.copy(INTS, 0, BYTES, 0, 1), -14, STORE);
        Unchanged.found("copy of none, unlike types: STORE", States::mixed, x -> x.copy(INTS, 0, BYTES, 0, 0), -14, STORE);
        Unchanged.found("copy of -1, unlike types: STORE", States::mixed, x -> x.copy(INTS, -1, BYTES, 99, -1), -14, STORE);
        Unchanged.found("copy from -1: INDEX", States::mixed, x -> x.copy(INTS, -1, INTS, 0, 1), -12, INDEX);
        Unchanged.found("copy to -1: INDEX", States::mixed, x -> x.copy(INTS, 0, INTS, -1, 1), -12, INDEX);
        Unchanged.found("copy of -1: INDEX", States::mixed, x -> x.copy(INTS, 0, INTS, 0, -1), -12, INDEX);
        Unchanged.found("copy from one too far: INDEX", States::mixed, x -> x.copy(INTS, 9, INTS, 0, 3), -12, INDEX);
        Unchanged.found("copy to one too far: INDEX", States::mixed, x -> x.copy(INTS, 0, INTS, 9, 3), -12, INDEX);
        Unchanged.refused("copy of sheet 4 to a lost one: BAD", States::mixed, x -> x.copy(4, 0, LOST, 0, 1), BAD);
        Unchanged.refused("copy of a lost one to sheet 4: BAD", States::mixed, x -> x.copy(LOST, 0, 4, 0, 1), BAD);
        Unchanged.refused("copy of -1 to sheet -1: BAD", States::mixed, x -> x.copy(INTS, 0, -1, 0, -1), BAD);
    }

    /** BAD; NULL; NOT. */
    private static void write() {
        Unchanged.found("write to a lost sheet: NULL", States::mixed, x -> x.write(RIGHT, LOST), -11, NULL);
        Unchanged.found("write of a fault to a lost sheet: NULL", States::mixed, x -> x.write(FAULTY, LOST), -11, NULL);
        Unchanged.refused("write of a fault: NOT", States::mixed, x -> x.write(FAULTY, BYTES), NOT);
        Unchanged.refused("write of design 4 to a lost sheet: BAD", States::mixed, x -> x.write(4, LOST), BAD);
        Unchanged.refused("write of a fault to sheet 4: BAD", States::mixed, x -> x.write(FAULTY, 4), BAD);
    }
}
