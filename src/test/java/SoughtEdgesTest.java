/** The document's sentences on best, parted and kept that name a boundary case: part 5, promises 28 to 30. */
public final class SoughtEdgesTest {
    private static final int BAD = SecretLots.BAD, NOT = SecretLots.NOT, FULL = SecretLots.FULL, NONE = SecretLots.NONE;
    private static final String CLEAR = "t11/12;u1/12", TURNED = "o11/12;u1/12";
    /** With OTHER 1 one who has it says yes with 73 by 192, one who has not with 65 by 192. */
    private static final String FINE = "t3/8;o1/3;u1/8;n1/6";

    public static void main(String[] args) {
        bestOfEachLimitAndShare();
        bestOfALimitFrom2To30();
        bestOfAShareFrom0To100();
        bestWithExposedTheLimitAtMost();
        bestOfLikeOnesTheLeastA();
        bestIsAlwaysThere();
        partedOfTheFirstFourItems();
        partedOfTooFewItems();
        partedOfCountsFrom0To999();
        partedOfAllOfThem0();
        partedOfEachType();
        partedBelow0();
        partedByWideDesigns();
        partedIs1Together();
        partedByOneDesignTwice();
        keptOfFewOrFewer();
        keptIfAllHaveIt();
        keptIsRoundedDown();
        keptOfOne();
        keptOfTwelveAndThirteen();
        keptByAWideDesign();
        keptOfNobody();
        Check.end("SoughtEdgesTest");
    }

    /** All of them, by whole numbers: 2400 R times (2400 less 2400 R), by the square of (a less b). */
    private static void bestOfEachLimitAndShare() {
        for (int limit = 2; limit <= 30; limit++) {
            SecretLots x = new SecretLots();
            for (int s = 0; s <= 100; s++) {
                int dueA = NONE;
                int dueB = NONE;
                long least = 0;
                long leastBy = 1;
                for (int a = 1; a <= 23; a++) {
                    for (int b = 1; b < a; b++) {
                        long r = (long) s * a + (100 - s) * b;
                        long spread = r * (2400 - r);
                        long square = (long) (a - b) * (a - b);
                        boolean within = a <= limit * b && 24 - b <= limit * (24 - a);
                        if (within && (dueA == NONE || spread * leastBy < least * square)) {
                            least = spread;
                            leastBy = square;
                            dueA = a;
                            dueB = b;
                        }
                    }
                }
                Check.due("best a of " + limit + ", " + s, x.best(limit, s, 0), dueA);
                Check.due("best b of " + limit + ", " + s, x.best(limit, s, 1), dueB);
            }
        }
    }

    private static void bestIs(int limit, int s, int a, int b) {
        SecretLots x = new SecretLots();
        Check.due("a of " + limit + ", " + s, x.best(limit, s, 0), a);
        Check.due("b of " + limit + ", " + s, x.best(limit, s, 1), b);
    }

    /** "a LIMIT on EXPOSED (2 to 30, whole)", which is not the one that limit() tells. */
    private static void bestOfALimitFrom2To30() {
        bestIs(2, 50, 16, 8);
        bestIs(30, 50, 23, 1);
        SecretLots x = new SecretLots();
        Check.due("of 1", x.best(1, 50, 0), BAD);
        Check.due("of 31", x.best(31, 50, 0), BAD);
        x.limit(1);
        Check.due("whatever limit() tells", x.best(30, 50, 0), 23);
    }

    /** "a share s of 100 (0 to 100) who HAVE it". */
    private static void bestOfAShareFrom0To100() {
        bestIs(6, 0, 18, 3);
        bestIs(6, 100, 21, 6);
        bestIs(22, 0, 22, 1);
        bestIs(22, 100, 23, 2);
        SecretLots x = new SecretLots();
        Check.due("of -1", x.best(6, -1, 0), BAD);
        Check.due("of 101", x.best(6, 101, 0), BAD);
        Check.due("what 2", x.best(6, 100, 2), BAD);
        Check.due("what -1", x.best(6, 100, -1), BAD);
    }

    /** "EXPOSED the LIMIT at most": where it is just that. */
    private static void bestWithExposedTheLimitAtMost() {
        bestIs(3, 50, 18, 6);
        bestIs(5, 50, 20, 4);
        bestIs(7, 50, 21, 3);
        bestIs(11, 50, 22, 2);
        bestIs(23, 50, 23, 1);
    }

    /** "of like ones the least a": of (20, 2) and (22, 4), (21, 1) and (23, 3), (22, 1) and (23, 2). */
    private static void bestOfLikeOnesTheLeastA() {
        bestIs(10, 50, 20, 2);
        bestIs(21, 50, 21, 1);
        bestIs(22, 50, 22, 1);
    }

    /** "NOT: there is none": for each limit that may be there is one, and it is within the limit. */
    private static void bestIsAlwaysThere() {
        SecretLots x = new SecretLots();
        for (int limit = 2; limit <= 30; limit++) {
            for (int s : new int[] {0, 50, 100}) {
                int a = x.best(limit, s, 0);
                int b = x.best(limit, s, 1);
                boolean fits = b >= 1 && b < a && a <= 23 && a <= limit * b && 24 - b <= limit * (24 - a);
                Check.due("best of " + limit + ", " + s + " fits", fits ? 1 : 0, 1);
            }
        }
    }

    private static void partedIs(SecretLots x, int s, int first, int second, long... due) {
        for (int which = 0; which < 4; which++) {
            Check.fraction("parted, which " + which, x.parted(s, first, second, which, 0), x.parted(s, first, second, which, 1),
                    due[2 * which], due[2 * which + 1]);
        }
    }

    /** "PARTED of the first four items of a SHEET": a fifth does not matter. */
    private static void partedOfTheFirstFourItems() {
        SecretLots x = Check.with("t1/1", "t1/1");
        Check.row(x, 0, 1, 2, 3, 4);
        partedIs(x, 0, 0, 1, 1, 10, 1, 5, 3, 10, 2, 5);
        Check.row(x, 1, 1, 2, 3, 4, 999);
        partedIs(x, 1, 0, 1, 1, 10, 1, 5, 3, 10, 2, 5);
        Check.row(x, 2, 1, 2, 3, 4, -1);
        partedIs(x, 2, 0, 1, 1, 10, 1, 5, 3, 10, 2, 5);
        x.sheet(3, 1, 60);
        x.put(3, 1, 0, 7);
        partedIs(x, 3, 0, 1, 1, 1, 0, 1, 0, 1, 0, 1);
    }

    /** "INDEX": there is no fourth item. */
    private static void partedOfTooFewItems() {
        for (int items = 0; items <= 4; items++) {
            SecretLots x = Check.with("t1/1");
            x.sheet(0, 2, items);
            for (int i = 0; i < items; i++) {
                x.put(0, 2, i, 1);
            }
            Check.due("parted of " + items, x.parted(0, 0, 0, 0, 1), items < 4 ? Check.LEAST + 12 : 4);
            Check.due("the finding", x.count(8), items < 4 ? 2 : 0);
        }
    }

    /** "four counts (0 to 999 each)". */
    private static void partedOfCountsFrom0To999() {
        SecretLots x = Check.with(States.WARNER, States.OPPOSITE, "t1/1");
        Check.row(x, 0, 999, 999, 999, 999);
        partedIs(x, 0, 0, 1, 1, 4, 1, 4, 1, 4, 1, 4);
        Check.row(x, 0, 998, 999, 997, 1);
        partedIs(x, 0, 0, 1, 10989, 23960, 1397, 4792, -6969, 23960, 2591, 4792);
        partedIs(x, 0, 2, 2, 998, 2995, 999, 2995, 997, 2995, 1, 2995);
        for (int i = 0; i < 4; i++) {
            int[] row = new int[4];
            row[i] = 999;
            Check.row(x, 0, row);
            Check.due("999 at " + i, x.parted(0, 2, 2, i, 0), 1);
            row[i] = 1000;
            Check.row(x, 0, row);
            Check.due("1000 at " + i, x.parted(0, 2, 2, i, 0), Check.refused(NOT));
            row[i] = -1;
            Check.row(x, 0, row);
            Check.due("-1 at " + i, x.parted(0, 2, 2, i, 0), Check.refused(NOT));
        }
    }

    /** "all of them 0": NOT; one of them 1 is enough. */
    private static void partedOfAllOfThem0() {
        SecretLots x = Check.with("t1/1");
        Check.row(x, 0, 0, 0, 0, 0);
        Check.due("all 0", x.parted(0, 0, 0, 0, 0), Check.refused(NOT));
        Check.due("all 0, below", x.parted(0, 0, 0, 3, 1), Check.refused(NOT));
        for (int i = 0; i < 4; i++) {
            x.put(0, 2, i, 1);
            Check.due("1 at " + i, x.parted(0, 0, 0, i, 0), 1);
            Check.due("1 at " + i + ", below", x.parted(0, 0, 0, i, 1), 1);
            x.put(0, 2, i, 0);
        }
    }

    /** The lowest bits of a byte or a short are its count: 200 as a byte is below 0. */
    private static void partedOfEachType() {
        int[] most = {127, 999, 999};
        for (int type = 0; type < 3; type++) {
            SecretLots x = Check.with("t1/1");
            x.sheet(0, type, 4);
            x.put(0, type, 1, most[type]);
            Check.due("the most in type " + type, x.parted(0, 0, 0, 1, 0), 1);
            x.put(0, type, 1, type == 0 ? 200 : 1000);
            Check.due("too many in type " + type, x.parted(0, 0, 0, 1, 0), Check.refused(NOT));
            x.put(0, type, 1, 65536 + 5);
            Check.due("5 in the lowest bits of type " + type, x.parted(0, 0, 0, 1, 0), type < 2 ? 1 : Check.refused(NOT));
        }
    }

    /** "as FRACTIONS (they may be below 0)", and above 1. */
    private static void partedBelow0() {
        SecretLots x = Check.with(States.WARNER, States.OPPOSITE);
        Check.row(x, 0, 999, 0, 0, 0);
        partedIs(x, 0, 0, 1, -5, 8, 15, 8, 1, 8, -3, 8);
        Check.row(x, 0, 0, 999, 0, 0);
        partedIs(x, 0, 0, 1, 15, 8, -5, 8, -3, 8, 1, 8);
        Check.row(x, 0, 0, 0, 999, 0);
        partedIs(x, 0, 0, 1, 1, 8, -3, 8, -5, 8, 15, 8);
        Check.row(x, 0, 0, 0, 0, 999);
        partedIs(x, 0, 0, 1, -3, 8, 1, 8, 15, 8, -5, 8);
    }

    /** parted is never FULL: by designs that are wide, too. */
    private static void partedByWideDesigns() {
        SecretLots x = Check.with(FINE, States.WARNER);
        x.other(1);
        Check.row(x, 0, 998, 999, 997, 1);
        partedIs(x, 0, 0, 1, 182897, 95840, 572099, 95840, -111097, 95840, -548059, 95840);
        partedIs(x, 0, 0, 0, -376013, 191680, 377201, 38336, 1882933, 191680, -640249, 38336);
        Check.row(x, 0, 0, 0, 0, 999);
        partedIs(x, 0, 0, 0, 4225, 64, -4745, 64, -4745, 64, 5329, 64);
    }

    /** The four shares are 1 together. */
    private static void partedIs1Together() {
        SecretLots x = Check.with(States.WARNER, FINE);
        x.other(1);
        Check.row(x, 0, 3, 0, 999, 52);
        double sum = 0;
        for (int which = 0; which < 4; which++) {
            sum += (double) x.parted(0, 0, 1, which, 0) / x.parted(0, 0, 1, which, 1);
        }
        Check.due("the sum, in millionths", Math.round(sum * 1000000), 1000000);
    }

    /** Both questions by the same design. */
    private static void partedByOneDesignTwice() {
        SecretLots x = Check.with("", "", "", States.OPPOSITE);
        Check.row(x, 3, 9, 3, 3, 1);
        partedIs(x, 3, 3, 3, 0, 1, 0, 1, 0, 1, 1, 1);
        Check.row(x, 3, 1, 3, 3, 9);
        partedIs(x, 3, 3, 3, 1, 1, 0, 1, 0, 1, 0, 1);
    }

    /** "as few as Y or fewer say yes": all N of them by all ways. */
    private static void keptOfFewOrFewer() {
        int[] due = {600066, 913144, 988010, 998860, 999922, 999996, 999999, 999999, 999999, 999999, 999999, 999999, 1000000};
        for (int yes = 0; yes <= 12; yes++) {
            SecretLots x = keptBy(CLEAR, yes, 12);
            Check.due("kept of " + yes + " yes", x.kept(0, 0), due[yes]);
        }
    }

    /** "(where IF one HAS is above IF one HAS NOT; else if all HAVE it)". */
    private static void keptIfAllHaveIt() {
        int[] due = {600066, 913144, 988010, 998860, 999922, 999996, 999999, 999999, 999999, 999999, 999999, 999999, 1000000};
        for (int yes = 0; yes <= 12; yes++) {
            SecretLots x = keptBy(TURNED, yes, 12);
            Check.due("kept by the opposite, of " + yes + " yes", x.kept(0, 0), due[yes]);
        }
        SecretLots x = keptBy("o1/4;n3/4", 0, 3);
        Check.due("kept if all have it, who all say no", x.kept(0, 0), 1000000);
    }

    private static SecretLots keptBy(String text, int yes, int people) {
        SecretLots x = Check.with(text);
        for (int p = 0; p < people; p++) {
            x.answer(p, 0, p < yes ? 1 : 0);
        }
        return x;
    }

    /** "in millionths, rounded down". */
    private static void keptIsRoundedDown() {
        Check.due("a third", keptBy("t1/3;y2/3", 0, 1).kept(0, 0), 333333);
        Check.due("two thirds", keptBy("t1/3;y1/3;n1/3", 0, 1).kept(0, 0), 666666);
        Check.due("a half", keptBy("t1/2;y1/2", 0, 1).kept(0, 0), 500000);
        Check.due("nothing", keptBy("t1/4;y3/4", 0, 12).kept(0, 0), 0);
        Check.due("one of 24 to the 12th less than all", keptBy(CLEAR, 11, 12).kept(0, 0), 999999);
    }

    /** The least N. */
    private static void keptOfOne() {
        Check.due("no, by the truth", keptBy("t1/1", 0, 1).kept(0, 0), 1000000);
        Check.due("yes, by the truth", keptBy("t1/1", 1, 1).kept(0, 0), 1000000);
        Check.due("no, by the opposite", keptBy("o1/1", 0, 1).kept(0, 0), 1000000);
        Check.due("no, by what does not tell", keptBy("t1/2;o1/2", 0, 1).kept(0, 0), NOT);
        Check.due("no, by Warner's", keptBy(States.WARNER, 0, 1).kept(0, 0), 833333);
        Check.due("yes, by Warner's", keptBy(States.WARNER, 1, 1).kept(0, 0), 1000000);
    }

    /** "(N 12 at most: FULL.)" */
    private static void keptOfTwelveAndThirteen() {
        SecretLots x = keptBy(CLEAR, 0, 12);
        Check.due("of 12", x.kept(0, 0), 600066);
        x.answer(12, 0, 0);
        Check.due("of 13", x.kept(0, 0), FULL);
        x.group(12, 3);
        Check.due("of 12 and another group", x.kept(0, 0), 600066);
        Check.due("of that one", x.kept(3, 0), 958333);
    }

    /** "FULL: .. or it is WIDE." */
    private static void keptByAWideDesign() {
        SecretLots x = keptBy(CLEAR, 0, 1);
        Check.due("a unit of 24", x.kept(0, 0), 958333);
        x.other(1);
        Check.due("a unit of 288", x.kept(0, 0), FULL);
    }

    /** "NOT: also if it does not TELL, or N is 0", ahead of FULL. */
    private static void keptOfNobody() {
        SecretLots x = Check.with(CLEAR, "u1/1");
        Check.due("of nobody", x.kept(0, 0), NOT);
        x.other(1);
        Check.due("of nobody, wide", x.kept(0, 0), NOT);
        x.wipe(1);
        Check.text(x, 1, "u1/2;n1/2");
        Check.due("unit", x.unit(1), 48);
        x.answer(0, 1, 1);
        Check.due("wide, and does not tell", x.kept(0, 1), NOT);
    }
}
