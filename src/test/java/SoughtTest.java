/** Promises 28 to 30. */
public final class SoughtTest {
    private static final int BAD = SecretLots.BAD, NOT = SecretLots.NOT, FULL = SecretLots.FULL;
    private static final String WARNER = "t2/3;y1/6;n1/6";

    public static void main(String[] args) {
        best();
        bestByGoingThroughAll();
        partedRefusals();
        partedTruth();
        partedFromKnownShares();
        kept();
        keptRefusals();
        Check.end("SoughtTest");
    }

    private static void best() {
        SecretLots x = new SecretLots();
        Check.due("best of limit 1", x.best(1, 50, 0), BAD);
        Check.due("best of limit 31", x.best(31, 50, 0), BAD);
        Check.due("best of s -1", x.best(2, -1, 0), BAD);
        Check.due("best of s 101", x.best(2, 101, 0), BAD);
        Check.due("best what 2", x.best(2, 50, 2), BAD);
        Check.due("best what -1", x.best(2, 50, -1), BAD);
        Check.due("best a", x.best(2, 50, 0), 16);
        Check.due("best b", x.best(2, 50, 1), 8);
        Check.due("best a of 30", x.best(30, 50, 0), 23);
        Check.due("best b of 30", x.best(30, 50, 1), 1);
    }

    private static void bestByGoingThroughAll() {
        for (int limit = 2; limit <= 30; limit++) {
            SecretLots x = new SecretLots();
            for (int s = 0; s <= 100; s += 5) {
                double least = 1e9;
                int dueA = 0;
                int dueB = 0;
                for (int a = 1; a <= 23; a++) {
                    for (int b = 1; b < a; b++) {
                        double r = (s * a + (100 - s) * b) / 2400.0;
                        double scatter = r * (1 - r) * 576 / ((a - b) * (a - b));
                        boolean within = a <= limit * b && 24 - b <= limit * (24 - a);
                        // like ones differ by less than this, unlike ones by more
                        if (within && scatter < least - 1e-11) {
                            least = scatter;
                            dueA = a;
                            dueB = b;
                        }
                    }
                }
                Check.due("best a of " + limit + ", " + s, x.best(limit, s, 0), dueA);
                Check.due("best b of " + limit + ", " + s, x.best(limit, s, 1), dueB);
            }
        }
    }

    private static void partedRefusals() {
        SecretLots x = Check.with(WARNER, "t1/1", "y1/1", "t1/2");
        Check.due("parted of sheet -1", x.parted(-1, 0, 1, 0, 0), Check.refused(BAD));
        Check.due("parted of sheet 4", x.parted(4, 0, 1, 0, 0), Check.refused(BAD));
        Check.due("parted by first 4", x.parted(0, 4, 1, 0, 0), Check.refused(BAD));
        Check.due("parted by second -1", x.parted(0, 0, -1, 0, 0), Check.refused(BAD));
        Check.due("parted which 4", x.parted(0, 0, 1, 4, 0), Check.refused(BAD));
        Check.due("parted which -1", x.parted(0, 0, 1, -1, 0), Check.refused(BAD));
        Check.due("parted what 2", x.parted(0, 0, 1, 0, 2), Check.refused(BAD));
        Check.due("no finding yet", x.count(8), 0);
        Check.due("parted of a lost sheet", x.parted(0, 3, 1, 0, 0), Check.LEAST + 11);
        Check.due("NULL is found", x.count(8), 1);
        Check.row(x, 0, 1, 2, 3);
        Check.due("parted of three", x.parted(0, 3, 1, 0, 0), Check.LEAST + 12);
        Check.due("INDEX is found", x.count(8), 2);
        Check.row(x, 0, 1, 2, 3, 4);
        Check.due("parted by a fault first", x.parted(0, 3, 1, 0, 0), Check.refused(NOT));
        Check.due("parted by a fault second", x.parted(0, 1, 3, 0, 0), Check.refused(NOT));
        Check.due("parted by one that does not tell", x.parted(0, 2, 1, 0, 0), Check.refused(NOT));
        Check.due("parted by one that does not tell second", x.parted(0, 1, 2, 0, 0), Check.refused(NOT));
        Check.row(x, 0, 1, 2, 3, -1);
        Check.due("parted of a count -1", x.parted(0, 0, 1, 0, 0), Check.refused(NOT));
        Check.row(x, 0, 1000, 2, 3, 4);
        Check.due("parted of a count 1000", x.parted(0, 0, 1, 0, 0), Check.refused(NOT));
        Check.row(x, 0, 0, 0, 0, 0, 7);
        Check.due("parted of nobody", x.parted(0, 0, 1, 0, 0), Check.refused(NOT));
        Check.row(x, 0, 0, 0, 1, 0);
        Check.fraction("parted of one", x.parted(0, 1, 1, 2, 0), x.parted(0, 1, 1, 2, 1), 1, 1);
        Check.row(x, 0, 999, 0, 0, 0);
        Check.fraction("parted of 999", x.parted(0, 1, 1, 0, 0), x.parted(0, 1, 1, 0, 1), 1, 1);
        x.type(0, ';');
        Check.due("parted by what has become a fault", x.parted(0, 0, 1, 0, 0), Check.refused(NOT));
        Check.due("parted by it second", x.parted(0, 1, 0, 0, 0), Check.refused(NOT));
    }

    private static void partedTruth() {
        SecretLots x = Check.with("t1/1", "o1/1");
        Check.row(x, 2, 1, 2, 3, 4, 1000);
        int[] truth = {1, 2, 3, 4};
        int[] secondTurned = {2, 1, 4, 3};
        int[] firstTurned = {3, 4, 1, 2};
        for (int which = 0; which < 4; which++) {
            tenths(x, 0, 0, which, truth[which]);
            tenths(x, 0, 1, which, secondTurned[which]);
            tenths(x, 1, 0, which, firstTurned[which]);
        }
    }

    private static void tenths(SecretLots x, int first, int second, int which, int above) {
        int common = above % 2 == 0 ? 2 : 1;
        Check.fraction("parted of the truth, " + first + second + which, x.parted(2, first, second, which, 0),
                x.parted(2, first, second, which, 1), above / common, 10 / common);
    }

    /** Of 144 people 72 have both, 36 the first alone, none the second alone, 36 neither. */
    private static void partedFromKnownShares() {
        SecretLots x = Check.with(WARNER, "o3/4;t1/4");
        int[] have = {72, 36, 0, 36};
        int[] yesOfFirst = {5, 5, 1, 1};
        int[] yesOfSecond = {1, 3, 1, 3};
        int[] said = new int[4];
        for (int i = 0; i < 4; i++) {
            int one = yesOfFirst[i];
            int two = yesOfSecond[i];
            said[0] += have[i] * one * two;
            said[1] += have[i] * one * (4 - two);
            said[2] += have[i] * (6 - one) * two;
            said[3] += have[i] * (6 - one) * (4 - two);
        }
        Check.row(x, 0, said[0] / 12, said[1] / 12, said[2] / 12, said[3] / 12);
        int[][] due = {{1, 2}, {1, 4}, {0, 1}, {1, 4}};
        for (int which = 0; which < 4; which++) {
            Check.fraction("parted of known shares, " + which, x.parted(0, 0, 1, which, 0), x.parted(0, 0, 1, which, 1),
                    due[which][0], due[which][1]);
        }
        Check.row(x, 0, 0, 0, 0, 999);
        Check.fraction("parted below 0", x.parted(0, 0, 0, 1, 0), x.parted(0, 0, 0, 1, 1), -5, 16);
    }

    private static void kept() {
        SecretLots x = Check.with(WARNER, "o3/4;t1/4", "t1/1");
        Check.answers(x, 0, "yn");
        // none has it: both say no with 25 by 36, one of them says yes with 10 by 36
        Check.due("kept of one yes", x.kept(0, 0), 972222);
        Check.answers(x, 1, "nnn");
        // all have it: each says no with 3 by 4
        Check.due("kept by the opposite", x.kept(0, 1), 421875);
        Check.answers(x, 2, "n");
        Check.due("kept of the truth", x.kept(0, 2), 1000000);
    }

    private static void keptRefusals() {
        SecretLots x = Check.with(WARNER, "t1/2;u1/2", "y1/1", "t1/2");
        Check.due("kept of group 4", x.kept(4, 0), BAD);
        Check.due("kept of group -1", x.kept(-1, 0), BAD);
        Check.due("kept by design 4", x.kept(0, 4), BAD);
        Check.due("kept by design -1", x.kept(0, -1), BAD);
        Check.due("kept by a fault", x.kept(0, 3), NOT);
        Check.due("kept of none", x.kept(0, 0), NOT);
        Check.answers(x, 2, "y");
        Check.due("kept by one that does not tell", x.kept(0, 2), NOT);
        x.other(1);
        Check.due("NOT ahead of FULL", x.kept(0, 1), NOT);
        Check.answers(x, 1, "y");
        Check.due("kept by a wide one", x.kept(0, 1), FULL);
        Check.answers(x, 0, "yyyyyyyyyyyy");
        Check.due("kept of twelve", x.kept(0, 0), 1000000);
        x.answer(12, 0, 1);
        Check.due("kept of thirteen", x.kept(0, 0), FULL);
    }
}
