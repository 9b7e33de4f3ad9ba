/** The document's sentences on how many have it that name a boundary case: part 3, promises 16 to 21. */
public final class EstimateEdgesTest {
    private static final int NOT = SecretLots.NOT, FULL = SecretLots.FULL, NONE = SecretLots.NONE;
    /** With OTHER 12 one who has it says yes with 23 by 24, one who has not with 1 by 24; and the opposite. */
    private static final String CLEAR = "t11/12;u1/12", TURNED = "o11/12;u1/12";
    /** With OTHER 1 one who has it says yes with 73 by 192, one who has not with 65 by 192. */
    private static final String FINE = "t3/8;o1/3;u1/8;n1/6";
    private static final String TWELVE = "yyyyyyyyyyyy";

    public static void main(String[] args) {
        shareBelow0AndAbove1();
        shareOf0AndOf1();
        shareByTheOpposite();
        shareOfNobody();
        shareByOneThatDoesNotTell();
        shareOfManyByAWideDesign();
        scatterOfFewerThanTwo();
        scatterOfTwo();
        scatterIsNeverBelow0();
        waysOfNobody();
        waysOfOne();
        waysOfKFrom0ToN();
        waysThatCannotBe();
        twelveHaveTheirWaysThirteenHaveNot();
        theMostWaysThereAre();
        waysByAUnitOf24AndAbove();
        twelveOfThirteenAsOfADay();
        likelyIsTheLeastOfLikeOnes();
        likelyOfTheMost();
        likelyWhereThereIsNoWay();
        spanByCFrom1To100();
        spanAtLeastCTimesTheMost();
        spanJustLessThanCTimesTheMost();
        spanOfOne();
        spanOfTheMost();
        atLeastOfNoYes();
        atLeastIsRoundedDown();
        atLeastOfKFrom0ToN();
        Check.end("EstimateEdgesTest");
    }

    private static SecretLots polled(String text, String said) {
        SecretLots x = Check.with("", text);
        Check.answers(x, 1, said);
        return x;
    }

    private static void shareIs(String text, String said, long above, long below) {
        SecretLots x = polled(text, said);
        Check.fraction("share by " + text + " of " + said, x.share(0, 1, 0), x.share(0, 1, 1), above, below);
    }

    /** "a FRACTION that may be below 0 or above 1". */
    private static void shareBelow0AndAbove1() {
        shareIs(States.WARNER, "n", -1, 4);
        shareIs(States.WARNER, "y", 5, 4);
        shareIs("t1/20;y10/20;n9/20", "n", -10, 1);
        shareIs("t1/20;y10/20;n9/20", "y", 10, 1);
        shareIs("t1/20;n19/20", "yyyyyyyyyyyyyyyyyyyyyyyy", 20, 1);
    }

    /** Just 0 is 0 by 1, just 1 is 1 by 1. */
    private static void shareOf0AndOf1() {
        shareIs("t1/1", "n", 0, 1);
        shareIs("t1/1", "y", 1, 1);
        shareIs("t1/2;y1/2", "yn", 0, 1);
        shareIs("t1/2;n1/2", "yn", 1, 1);
        shareIs(States.WARNER, "ynnnnn", 0, 1);
        shareIs(States.WARNER, "yyyyyn", 1, 1);
        shareIs(States.WARNER, "yn", 1, 2);
    }

    /** Where one who has it says yes less often, the sign is still above. */
    private static void shareByTheOpposite() {
        shareIs(States.OPPOSITE, "y", -1, 2);
        shareIs(States.OPPOSITE, "n", 3, 2);
        shareIs("o1/1", "y", 0, 1);
        shareIs("o1/1", "n", 1, 1);
        shareIs(States.OPPOSITE, "yyn", 1, 6);
    }

    /** "NOT: also if .. N is 0". */
    private static void shareOfNobody() {
        SecretLots x = polled("t1/1", "y");
        Check.due("of one", x.share(0, 1, 0), 1);
        Check.due("of another group", x.share(1, 1, 0), Check.refused(NOT));
        x.pass(1);
        x.takeBack(0);
        Check.due("of one taken back", x.share(0, 1, 0), Check.refused(NOT));
        x.asOf(0);
        Check.due("as of the day before", x.share(0, 1, 0), 1);
    }

    /** "NOT: also if the DESIGN does not TELL". */
    private static void shareByOneThatDoesNotTell() {
        for (String text : new String[] {"y1/1", "n1/1", "u1/1", "t1/2;o1/2", "t1/4;o1/4;y1/4;u1/4"}) {
            SecretLots x = polled(text, "yny");
            Check.due("share by " + text, x.share(0, 1, 1), Check.refused(NOT));
            Check.due("scatter by " + text, x.scatter(0, 1, 1), Check.refused(NOT));
            Check.due("kept by " + text, x.kept(0, 1), NOT);
        }
    }

    /** A design that is wide, and more than 12 people, have their share and scatter. */
    private static void shareOfManyByAWideDesign() {
        SecretLots x = polled(FINE, "yyyyynnnnnnnnnnnnnnnnnn");
        x.other(1);
        Check.due("unit", x.unit(1), 192);
        Check.due("N", x.poll(0, 1, 0), 23);
        Check.fraction("share of 23", x.share(0, 1, 0), x.share(0, 1, 1), -535, 184);
        Check.fraction("scatter of 23", x.scatter(0, 1, 0), x.scatter(0, 1, 1), 25920, 5819);
    }

    /** "NOT: also if .. N is below 2". */
    private static void scatterOfFewerThanTwo() {
        SecretLots x = polled("t1/1", "");
        Check.due("of nobody", x.scatter(0, 1, 0), Check.refused(NOT));
        x.answer(0, 1, 1);
        Check.due("of one", x.scatter(0, 1, 0), Check.refused(NOT));
        x.answer(0, 1, 0);
        Check.due("of one asked twice", x.scatter(0, 1, 0), Check.refused(NOT));
        x.answer(1, 1, 0);
        Check.due("of two", x.scatter(0, 1, 0), 1);
        x.group(1, 1);
        Check.due("of two in two groups", x.scatter(0, 1, 0), Check.refused(NOT));
    }

    /** The least N that has a scatter. */
    private static void scatterOfTwo() {
        scatterIs("t1/1", "yn", 1, 4);
        scatterIs(States.WARNER, "yn", 9, 16);
        scatterIs(States.OPPOSITE, "yn", 1, 1);
        scatterIs(States.WARNER, "yy", 0, 1);
        scatterIs(States.WARNER, "nn", 0, 1);
    }

    /** The opposite has the scatter of the truth. */
    private static void scatterIsNeverBelow0() {
        scatterIs("o1/1", "ynn", 1, 9);
        scatterIs("t1/1", "ynn", 1, 9);
        scatterIs("o1/20;n19/20", "ynn", 400, 9);
    }

    private static void scatterIs(String text, String said, long above, long below) {
        SecretLots x = polled(text, said);
        Check.fraction("scatter by " + text + " of " + said, x.scatter(0, 1, 0), x.scatter(0, 1, 1), above, below);
    }

    /** N 0: of no lots there is one way, by which nobody says yes. */
    private static void waysOfNobody() {
        SecretLots x = polled(States.WARNER, "");
        Check.due("ways of 0", x.ways(0, 1, 0), 1);
        Check.due("ways of 1, above N", x.ways(0, 1, 1), Check.refused(NOT));
        Check.due("likely", x.likely(0, 1), 0);
        Check.due("span from", x.span(0, 1, 1, 0), 0);
        Check.due("span to", x.span(0, 1, 100, 1), 0);
        Check.due("atLeast of 0", x.atLeast(0, 1, 0), 1000000);
        Check.due("atLeast of 1, above N", x.atLeast(0, 1, 1), NOT);
        Check.due("kept", x.kept(0, 1), NOT);
    }

    /** N 1: "each one of U". */
    private static void waysOfOne() {
        SecretLots x = polled(States.WARNER, "y");
        Check.due("ways of 0 that say yes", x.ways(0, 1, 0), 1);
        Check.due("ways of 1 that say yes", x.ways(0, 1, 1), 5);
        Check.due("ways of 2, above N", x.ways(0, 1, 2), Check.refused(NOT));
        x = polled(States.WARNER, "n");
        Check.due("ways of 0 that say no", x.ways(0, 1, 0), 5);
        Check.due("ways of 1 that say no", x.ways(0, 1, 1), 1);
    }

    /** "WAYS of k (0 to N)". */
    private static void waysOfKFrom0ToN() {
        SecretLots x = polled(CLEAR, "yyyyyynnnnnn");
        long[] due = {136785161436L, 1576002946980L, 16519975763676L, 152586281541540L, 1177546212457692L, 6859983277755300L,
            23423658084738780L, 6859983277755300L, 1177546212457692L, 152586281541540L, 16519975763676L, 1576002946980L, 136785161436L};
        for (int k = 0; k <= 12; k++) {
            Check.due("ways of " + k, x.ways(0, 1, k), due[k]);
        }
        Check.due("ways of 13", x.ways(0, 1, 13), Check.refused(NOT));
        Check.due("ways of the greatest int", x.ways(0, 1, Integer.MAX_VALUE), Check.refused(NOT));
        Check.due("atLeast of the greatest int", x.atLeast(0, 1, Integer.MAX_VALUE), NOT);
    }

    /** How many ways can be none. */
    private static void waysThatCannotBe() {
        SecretLots x = polled("t1/1", "ynn");
        long[] due = {0, 1, 0, 0};
        for (int k = 0; k <= 3; k++) {
            Check.due("ways of " + k, x.ways(0, 1, k), due[k]);
        }
    }

    /** "(N 12 at most: FULL.)" */
    private static void twelveHaveTheirWaysThirteenHaveNot() {
        SecretLots x = polled("t1/1", TWELVE);
        Check.due("ways of 12", x.ways(0, 1, 12), 1);
        Check.due("likely of 12", x.likely(0, 1), 12);
        Check.due("span of 12", x.span(0, 1, 1, 0), 12);
        Check.due("atLeast of 12", x.atLeast(0, 1, 12), 1000000);
        Check.due("kept of 12", x.kept(0, 1), 1000000);
        x.answer(0, 1, 1);
        Check.due("likely of 12, one of them asked twice", x.likely(0, 1), 12);
        x.answer(12, 1, 0);
        Check.due("ways of 13, k 0", x.ways(0, 1, 0), Check.refused(FULL));
        Check.due("ways of 13, k 13", x.ways(0, 1, 13), Check.refused(FULL));
        Check.due("ways of 13, k 14", x.ways(0, 1, 14), Check.refused(NOT));
        Check.due("likely of 13", x.likely(0, 1), FULL);
        Check.due("span of 13", x.span(0, 1, 1, 0), FULL);
        Check.due("atLeast of 13", x.atLeast(0, 1, 13), FULL);
        Check.due("atLeast of 13, k 14", x.atLeast(0, 1, 14), NOT);
        Check.due("kept of 13", x.kept(0, 1), FULL);
        Check.due("share of 13", x.share(0, 1, 0), 12);
    }

    /** 12 lots of 24 each. */
    private static void theMostWaysThereAre() {
        SecretLots x = polled("u1/1", TWELVE);
        x.other(23);
        Check.due("unit", x.unit(1), 24);
        for (int k = 0; k <= 12; k++) {
            Check.due("ways of " + k, x.ways(0, 1, k), 21914624432020321L);
        }
        Check.due("likely", x.likely(0, 1), 0);
        Check.due("span from", x.span(0, 1, 100, 0), 0);
        Check.due("span to", x.span(0, 1, 100, 1), 12);
        Check.due("atLeast", x.atLeast(0, 1, 7), 600066);
    }

    /** "FULL: N above 12, or it is WIDE", which is a unit above 24. */
    private static void waysByAUnitOf24AndAbove() {
        SecretLots x = polled(CLEAR, "yy");
        Check.due("unit", x.unit(1), 24);
        Check.due("ways by 24", x.ways(0, 1, 2), 529);
        Check.due("kept by 24", x.kept(0, 1), 1000000);
        x.other(6);
        Check.due("unit with OTHER 6", x.unit(1), 48);
        Check.due("ways by 48", x.ways(0, 1, 2), Check.refused(FULL));
        Check.due("likely by 48", x.likely(0, 1), FULL);
        Check.due("span by 48", x.span(0, 1, 1, 0), FULL);
        Check.due("atLeast by 48", x.atLeast(0, 1, 2), FULL);
        Check.due("kept by 48", x.kept(0, 1), FULL);
        Check.due("ways by 48 of nobody", x.ways(1, 1, 0), Check.refused(FULL));
        x.wipe(1);
        Check.text(x, 1, "t12/13;u1/13");
        x.other(12);
        Check.due("unit of 13ths and halves", x.unit(1), 26);
        Check.due("ways by 26", x.ways(0, 1, 2), Check.refused(FULL));
        Check.due("likely by 26", x.likely(0, 1), FULL);
        Check.due("span by 26", x.span(0, 1, 1, 0), FULL);
        Check.due("atLeast by 26", x.atLeast(0, 1, 2), FULL);
        Check.due("kept by 26", x.kept(0, 1), FULL);
    }

    /** N is that of the poll: as of a day, of a group, of what is not taken back. */
    private static void twelveOfThirteenAsOfADay() {
        SecretLots x = polled("t1/1", TWELVE);
        x.pass(1);
        x.answer(12, 1, 1);
        Check.due("13 on the day", x.likely(0, 1), FULL);
        x.asOf(0);
        Check.due("12 as of the day before", x.likely(0, 1), 12);
        x.asOf(NONE);
        x.group(5, 1);
        Check.due("12 in the group", x.likely(0, 1), 12);
        x.group(5, 0);
        x.takeBack(3);
        Check.due("12 that are not taken back", x.likely(0, 1), 12);
    }

    /** "the k with the most WAYS, of like ones the least". */
    private static void likelyIsTheLeastOfLikeOnes() {
        // ways 6, 8, 8 and 8, 8, 6
        likelyIs("t1/4;y1/4;n1/2", "yn", 1, 1, 2);
        likelyIs("t1/4;y1/2;n1/4", "yn", 0, 0, 1);
        likelyIs("y1/2;n1/2", "ynyn", 0, 0, 4);
    }

    private static void likelyIs(String text, String said, int likely, int from, int to) {
        SecretLots x = polled(text, said);
        Check.due("likely by " + text + " of " + said, x.likely(0, 1), likely);
        Check.due("the most from", x.span(0, 1, 100, 0), from);
        Check.due("the most to", x.span(0, 1, 100, 1), to);
    }

    /** At the ends: k 0 and k N. */
    private static void likelyOfTheMost() {
        likelyIs(CLEAR, TWELVE, 12, 12, 12);
        likelyIs(CLEAR, TWELVE.replace('y', 'n'), 0, 0, 0);
        likelyIs(TURNED, TWELVE, 0, 0, 0);
        likelyIs(TURNED, TWELVE.replace('y', 'n'), 12, 12, 12);
        likelyIs(CLEAR, "ynnnnnnnnnnn", 1, 1, 1);
    }

    /** Of like ones, none of which has a way, the least. */
    private static void likelyWhereThereIsNoWay() {
        likelyIs("y1/1", "nnn", 0, 0, 3);
        likelyIs("n1/1", "y", 0, 0, 1);
        SecretLots x = polled("y1/1", "ny");
        Check.due("ways", x.ways(0, 1, 1), 0);
        Check.due("atLeast one yes", x.atLeast(0, 1, 1), 1000000);
    }

    /** "c (told, 1 to 100)". */
    private static void spanByCFrom1To100() {
        SecretLots x = polled(CLEAR, "yyyyyynnnnnn");
        // the ways of 4 and 8 are 5.03 of 100 of the most, those of 5 and 7 are 29.3 of 100
        int[][] due = {{1, 4, 8}, {5, 4, 8}, {6, 5, 7}, {29, 5, 7}, {30, 6, 6}, {99, 6, 6}, {100, 6, 6}};
        for (int[] d : due) {
            Check.due("from, by " + d[0], x.span(0, 1, d[0], 0), d[1]);
            Check.due("to, by " + d[0], x.span(0, 1, d[0], 1), d[2]);
        }
        Check.due("by 0", x.span(0, 1, 0, 0), SecretLots.BAD);
        Check.due("by 101", x.span(0, 1, 101, 0), SecretLots.BAD);
    }

    /** "whose WAYS times 100 are at least c times the most": ways 1 and 4, so that 25 is just as many. */
    private static void spanAtLeastCTimesTheMost() {
        SecretLots x = polled("t3/5;y1/5;n1/5", "y");
        Check.due("yes, from by 24", x.span(0, 1, 24, 0), 0);
        Check.due("yes, from by 25", x.span(0, 1, 25, 0), 0);
        Check.due("yes, from by 26", x.span(0, 1, 26, 0), 1);
        Check.due("yes, to by 25", x.span(0, 1, 25, 1), 1);
        x = polled("t3/5;y1/5;n1/5", "n");
        Check.due("no, to by 24", x.span(0, 1, 24, 1), 1);
        Check.due("no, to by 25", x.span(0, 1, 25, 1), 1);
        Check.due("no, to by 26", x.span(0, 1, 26, 1), 0);
        Check.due("no, from by 25", x.span(0, 1, 25, 0), 0);
    }

    /** The same where it is just less: ways 2 and 3, of which the less is 66 and two thirds of 100 of the most. */
    private static void spanJustLessThanCTimesTheMost() {
        SecretLots x = polled("t1/5;y2/5;n2/5", "y");
        Check.due("yes, from by 66", x.span(0, 1, 66, 0), 0);
        Check.due("yes, from by 67", x.span(0, 1, 67, 0), 1);
        x = polled("t1/5;y2/5;n2/5", "n");
        Check.due("no, to by 66", x.span(0, 1, 66, 1), 1);
        Check.due("no, to by 67", x.span(0, 1, 67, 1), 0);
    }

    /** N 1, where only one k can be. */
    private static void spanOfOne() {
        SecretLots x = polled("t1/1", "y");
        Check.due("from", x.span(0, 1, 1, 0), 1);
        Check.due("to", x.span(0, 1, 1, 1), 1);
    }

    /** 100 times the most ways is not more than there is room for. */
    private static void spanOfTheMost() {
        SecretLots x = polled("u1/1", TWELVE);
        x.other(23);
        for (int c = 1; c <= 100; c++) {
            Check.due("from, by " + c, x.span(0, 1, c, 0), 0);
            Check.due("to, by " + c, x.span(0, 1, c, 1), 12);
        }
    }

    /** "Y or more say yes": if Y is 0, by all ways. */
    private static void atLeastOfNoYes() {
        SecretLots x = polled(CLEAR, TWELVE.replace('y', 'n'));
        for (int k = 0; k <= 12; k++) {
            Check.due("atLeast of " + k, x.atLeast(0, 1, k), 1000000);
        }
    }

    /** "in millionths, rounded down". */
    private static void atLeastIsRoundedDown() {
        SecretLots x = polled(CLEAR, "ynnnnnnnnnnn");
        int[] due = {399933, 973910, 998865, 999950, 999997, 999999, 999999, 999999, 999999, 999999, 999999, 999999, 999999};
        for (int k = 0; k <= 12; k++) {
            Check.due("atLeast one, of " + k, x.atLeast(0, 1, k), due[k]);
        }
        x = polled("t1/3;y1/3;n1/3", "y");
        Check.due("atLeast of a third", x.atLeast(0, 1, 0), 333333);
        Check.due("atLeast of two thirds", x.atLeast(0, 1, 1), 666666);
        x = polled("t1/2;y1/2", "y");
        Check.due("atLeast of a half", x.atLeast(0, 1, 0), 500000);
        Check.due("atLeast of all", x.atLeast(0, 1, 1), 1000000);
        x = polled("t1/2;n1/2", "y");
        Check.due("atLeast of none", x.atLeast(0, 1, 0), 0);
    }

    /** k from 0 to N, N 12, all of whom say yes. */
    private static void atLeastOfKFrom0ToN() {
        SecretLots x = polled(CLEAR, TWELVE);
        int[] due = {0, 0, 0, 0, 0, 0, 0, 0, 2, 49, 1134, 26089, 600066};
        for (int k = 0; k <= 12; k++) {
            Check.due("atLeast twelve, of " + k, x.atLeast(0, 1, k), due[k]);
        }
        Check.due("atLeast of 13", x.atLeast(0, 1, 13), NOT);
        Check.due("atLeast of -1", x.atLeast(0, 1, -1), SecretLots.BAD);
    }
}
