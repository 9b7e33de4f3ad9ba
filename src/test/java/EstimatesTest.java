/** Promises 16 to 21. */
public final class EstimatesTest {
    private static final int BAD = SecretLots.BAD, NOT = SecretLots.NOT, FULL = SecretLots.FULL;
    private static final String WARNER = "t2/3;y1/6;n1/6";

    public static void main(String[] args) {
        share();
        scatter();
        ways();
        waysByHand();
        likely();
        span();
        atLeast();
        lotsAreFull();
        Check.end("EstimatesTest");
    }

    private static void share() {
        SecretLots x = Check.with(WARNER, "o3/4;t1/4", "y1/1", "t1/2");
        Check.due("share of group -1", x.share(-1, 0, 0), Check.refused(BAD));
        Check.due("share of group 4", x.share(4, 0, 0), Check.refused(BAD));
        Check.due("share by design 4", x.share(0, 4, 0), Check.refused(BAD));
        Check.due("share by design -1", x.share(0, -1, 0), Check.refused(BAD));
        Check.due("share what 2", x.share(0, 3, 2), Check.refused(BAD));
        Check.due("share of none", x.share(0, 0, 0), Check.refused(NOT));
        Check.answers(x, 0, "nnn");
        Check.answers(x, 1, "yyyn");
        Check.answers(x, 2, "yyyn");
        Check.due("share by a fault", x.share(0, 3, 0), Check.refused(NOT));
        Check.due("share by one that does not tell", x.share(0, 2, 0), Check.refused(NOT));
        Check.fraction("below 0", x.share(0, 0, 0), x.share(0, 0, 1), -1, 4);
        Check.fraction("0 by 1", x.share(0, 1, 0), x.share(0, 1, 1), 0, 1);
        x.group(3, 1);
        Check.fraction("below 0 by the opposite", x.share(0, 1, 0), x.share(0, 1, 1), -1, 2);
        Check.fraction("above 1 by the opposite", x.share(1, 1, 0), x.share(1, 1, 1), 3, 2);
    }

    private static void scatter() {
        SecretLots x = Check.with(WARNER, "o3/4;t1/4", "y1/1", "t1/2");
        Check.due("scatter of group 4", x.scatter(4, 0, 0), Check.refused(BAD));
        Check.due("scatter by design -1", x.scatter(0, -1, 0), Check.refused(BAD));
        Check.due("scatter what -1", x.scatter(0, 0, -1), Check.refused(BAD));
        Check.answers(x, 0, "y");
        Check.due("scatter of one", x.scatter(0, 0, 0), Check.refused(NOT));
        Check.answers(x, 1, "yyny");
        Check.answers(x, 2, "yy");
        Check.due("scatter by a fault", x.scatter(0, 3, 0), Check.refused(NOT));
        Check.due("scatter by one that does not tell", x.scatter(0, 2, 0), Check.refused(NOT));
        Check.fraction("scatter", x.scatter(0, 1, 0), x.scatter(0, 1, 1), 1, 4);
        x.answer(1, 0, 1);
        Check.fraction("scatter of all yes", x.scatter(0, 0, 0), x.scatter(0, 0, 1), 0, 1);
        x.answer(2, 0, 0);
        Check.fraction("scatter of three", x.scatter(0, 0, 0), x.scatter(0, 0, 1), 1, 4);
    }

    private static void ways() {
        SecretLots x = Check.with(WARNER, "t1/1", "y1/1", "t1/2");
        Check.due("ways of group 4", x.ways(4, 0, 0), Check.refused(BAD));
        Check.due("ways by design 4", x.ways(0, 4, 0), Check.refused(BAD));
        Check.due("ways of -1", x.ways(0, 0, -1), Check.refused(BAD));
        Check.due("BAD ahead of NOT", x.ways(0, 3, -1), Check.refused(BAD));
        Check.due("ways by a fault", x.ways(0, 3, 0), Check.refused(NOT));
        Check.due("ways of none", x.ways(0, 0, 0), 1);
        Check.due("ways above N", x.ways(0, 0, 1), Check.refused(NOT));
        Check.answers(x, 1, "yyn");
        Check.answers(x, 2, "yyn");
        for (int k = 0; k <= 3; k++) {
            Check.due("ways of the truth, " + k, x.ways(0, 1, k), k == 2 ? 1 : 0);
            Check.due("ways that cannot be, " + k, x.ways(0, 2, k), 0);
        }
    }

    /** All ways are gone through one by one. */
    private static void waysByHand() {
        SecretLots x = Check.with(WARNER);
        Check.answers(x, 0, "ynyn");
        for (int k = 0; k <= 4; k++) {
            int just = 0;
            int more = 0;
            for (int way = 0; way < 6 * 6 * 6 * 6; way++) {
                int yes = yesOf(way, k);
                just += yes == 2 ? 1 : 0;
                more += yes >= 2 ? 1 : 0;
            }
            Check.due("ways by hand, " + k, x.ways(0, 0, k), just);
            Check.due("atLeast by hand, " + k, x.atLeast(0, 0, k), more * 1000000L / 1296);
        }
    }

    private static int yesOf(int way, int have) {
        int yes = 0;
        int rest = way;
        for (int person = 0; person < 4; person++) {
            int lot = rest % 6;
            rest /= 6;
            boolean saysYes = lot < 4 ? person < have : lot == 4;
            yes += saysYes ? 1 : 0;
        }
        return yes;
    }

    private static void likely() {
        SecretLots x = Check.with(WARNER, "o2/3;t1/3", "y1/1", "t1/2");
        Check.due("likely of group 4", x.likely(4, 0), BAD);
        Check.due("likely by design -1", x.likely(0, -1), BAD);
        Check.due("likely by a fault", x.likely(0, 3), NOT);
        Check.due("likely of none", x.likely(0, 0), 0);
        Check.answers(x, 0, "yyyn");
        Check.answers(x, 1, "yyyyn");
        Check.answers(x, 2, "nnn");
        Check.due("likely", x.likely(0, 0), 3);
        x.group(1, 1);
        x.group(2, 1);
        Check.due("likely of one yes of two", x.likely(0, 0), 1);
        Check.due("likely of two yes", x.likely(1, 0), 2);
        Check.due("likely by the opposite", x.likely(0, 1), 0);
        Check.due("of like ones the least", x.likely(0, 2), 0);
    }

    private static void span() {
        SecretLots x = Check.with(WARNER, "t1/1", "y1/1", "t1/2");
        Check.due("span of group -1", x.span(-1, 0, 1, 0), BAD);
        Check.due("span by design 4", x.span(0, 4, 1, 0), BAD);
        Check.due("span by c 0", x.span(0, 0, 0, 0), BAD);
        Check.due("span by c 101", x.span(0, 0, 101, 0), BAD);
        Check.due("span to end 2", x.span(0, 0, 1, 2), BAD);
        Check.due("span to end -1 of a fault", x.span(0, 3, 1, -1), BAD);
        Check.due("span by a fault", x.span(0, 3, 1, 0), NOT);
        Check.due("span of none", x.span(0, 0, 100, 1), 0);
        Check.answers(x, 0, "ynyn");
        Check.answers(x, 1, "ynyn");
        Check.answers(x, 2, "ynyn");
        // ways by k: 150, 390, 726, 390, 150
        int[][] due = {{1, 0, 4}, {20, 0, 4}, {21, 1, 3}, {53, 1, 3}, {54, 2, 2}, {100, 2, 2}};
        for (int[] d : due) {
            Check.due("span by " + d[0] + " from", x.span(0, 0, d[0], 0), d[1]);
            Check.due("span by " + d[0] + " to", x.span(0, 0, d[0], 1), d[2]);
        }
        Check.due("span of the truth from", x.span(0, 1, 1, 0), 2);
        Check.due("span of the truth to", x.span(0, 1, 1, 1), 2);
        Check.due("span of no ways from", x.span(0, 2, 100, 0), 0);
        Check.due("span of no ways to", x.span(0, 2, 100, 1), 4);
    }

    private static void atLeast() {
        SecretLots x = Check.with(WARNER, "t1/1", "t1/2;y1/4;n1/4", "t1/2");
        Check.due("atLeast of group 4", x.atLeast(4, 0, 0), BAD);
        Check.due("atLeast by design 4", x.atLeast(0, 4, 0), BAD);
        Check.due("atLeast of -1", x.atLeast(0, 0, -1), BAD);
        Check.due("atLeast by a fault", x.atLeast(0, 3, 0), NOT);
        Check.due("atLeast of none", x.atLeast(0, 0, 0), 1000000);
        Check.due("atLeast above N", x.atLeast(0, 0, 1), NOT);
        Check.answers(x, 1, "yn");
        Check.due("atLeast of the truth, 0", x.atLeast(0, 1, 0), 0);
        Check.due("atLeast of the truth, 1", x.atLeast(0, 1, 1), 1000000);
        Check.answers(x, 2, "yyyyyyyyyyyy");
        Check.due("rounded down, 0", x.atLeast(0, 2, 0), 0);
        Check.due("rounded down, 6", x.atLeast(0, 2, 6), 43);
        Check.due("rounded down, 12", x.atLeast(0, 2, 12), 31676);
    }

    private static void lotsAreFull() {
        SecretLots x = Check.with("t3/8;y1/3;n1/6;n1/8", "t1/2;u1/2");
        Check.due("a unit of 24", x.unit(0), 24);
        Check.answers(x, 0, "yyyyyyyyyyyy");
        // (3/8 + 1/3 = 17/24) to the 12th
        Check.due("the most ways", x.ways(0, 0, 12), 582622237229761L);
        Check.due("likely of the most", x.likely(0, 0), 12);
        Check.due("atLeast of the most", x.atLeast(0, 0, 12), 15953);
        Check.due("span of the most", x.span(0, 0, 100, 1), 12);
        x.answer(12, 0, 1);
        Check.due("ways of 13 people", x.ways(0, 0, 0), Check.refused(FULL));
        Check.due("NOT ahead of FULL", x.ways(0, 0, 14), Check.refused(NOT));
        Check.due("likely of 13 people", x.likely(0, 0), FULL);
        Check.due("span of 13 people", x.span(0, 0, 1, 0), FULL);
        Check.due("atLeast of 13 people", x.atLeast(0, 0, 13), FULL);
        Check.due("atLeast NOT ahead of FULL", x.atLeast(0, 0, 14), NOT);
        x.other(1);
        x.answer(0, 1, 1);
        Check.due("ways that are wide", x.ways(0, 1, 0), Check.refused(FULL));
        Check.due("wide, but above N", x.ways(0, 1, 2), Check.refused(NOT));
        Check.due("likely of wide", x.likely(0, 1), FULL);
        Check.due("likely of wide of none", x.likely(1, 1), FULL);
        Check.due("span of wide", x.span(0, 1, 1, 0), FULL);
        Check.due("atLeast of wide", x.atLeast(0, 1, 0), FULL);
    }
}
