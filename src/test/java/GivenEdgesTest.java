/** The document's sentences on what is given away that name a boundary case: part 4, promises 22 to 27. */
public final class GivenEdgesTest {
    private static final int BAD = SecretLots.BAD, NOT = SecretLots.NOT, FULL = SecretLots.FULL;
    private static final int YES = 1, NO = 0;
    /** If OTHER is 13, who has it says yes with 253 by 480, who has not with 229 by 480; and the opposite. */
    private static final String LARGE = "t1/2;o9/20;u1/20", TURNED = "o1/2;t9/20;u1/20";
    /** Yes is 10 and 4 times as likely for one who has it, and as unlikely for no. */
    private static final String BY_10 = "t9/11;y1/11;n1/11", BY_4 = "t3/5;y1/5;n1/5";

    public static void main(String[] args) {
        awayByOneAnswer();
        awayIsNone();
        awayIsNoneOfNoLotAtAll();
        awayOf0();
        givenOfNoAnswer();
        givenOfTheFirstTwoAtMost();
        givenOfTwoOfEachOfFourDesigns();
        givenIsNoneWhereOneOfThemIs();
        givenUpTo1000000000();
        givenUpTo1000000000Below();
        givenInLowestTerms();
        givenAnswerByAnswer();
        givenOf0StaysThere();
        givenWithAFault();
        givenNoneAheadOfFull();
        hasBySharesFrom1To99();
        hasOfTheMostGivenAway();
        hasOfNoneIs1By1();
        hasOfNothing();
        exposedIsTheGreatestOfFour();
        exposedIsNoneIfSomethingIsBy0();
        exposedOfOneThatDoesNotTell();
        limitIs1To1000();
        limitIs100AtFirst();
        mayUpToALimitOf1();
        mayUpToALimitOf1000();
        mayWhateverIsSaidThen();
        mayOnlyIfItTells();
        mayOnlyIfExposedIsThere();
        mayWithNotMoreThanTwoAnswers();
        mayWhereGivenIsRefused();
        mayWhereItWouldBeFull();
        Check.end("GivenEdgesTest");
    }

    private static void awayIs(String text, int yes, long above, long below) {
        SecretLots x = Check.with("", text);
        Check.fraction("away by " + yes + " of " + text, x.away(1, yes, 0), x.away(1, yes, 1), above, below);
    }

    /** "the share with which one who HAS it gives it, by the share with which one who HAS NOT does". */
    private static void awayByOneAnswer() {
        awayIs(BY_10, YES, 10, 1);
        awayIs(BY_10, NO, 1, 10);
        awayIs(States.OPPOSITE, YES, 1, 3);
        awayIs(States.OPPOSITE, NO, 3, 1);
        awayIs("u1/1", YES, 1, 1);
        awayIs("y1/1", YES, 1, 1);
        awayIs("n1/1", NO, 1, 1);
    }

    /** "NONE, if it could not be given by one who HAS NOT"; away: "NOT: also NONE." */
    private static void awayIsNone() {
        noneAway("t1/1", YES);
        noneAway("t1/2;n1/2", YES);
        noneAway("o1/1", NO);
        noneAway("o1/2;y1/2", NO);
    }

    /** By nobody at all: it could not be given by one who HAS NOT, either. */
    private static void awayIsNoneOfNoLotAtAll() {
        noneAway("y1/1", NO);
        noneAway("n1/1", YES);
    }

    private static void noneAway(String text, int yes) {
        SecretLots x = Check.with("", text);
        Check.due("away by " + yes + " of " + text, x.away(1, yes, 0), Check.refused(NOT));
        Check.due("away below", x.away(1, yes, 1), Check.refused(NOT));
        x.answer(5, 1, yes);
        Check.due("given", x.given(5, 0), Check.refused(NOT));
        Check.due("given below", x.given(5, 1), Check.refused(NOT));
    }

    /** What one who HAS it could not give is 0 by 1, not NONE. */
    private static void awayOf0() {
        awayIs("t1/1", NO, 0, 1);
        awayIs("t1/2;y1/2", NO, 0, 1);
        awayIs("o1/1", YES, 0, 1);
        awayIs("o1/2;n1/2", YES, 0, 1);
    }

    /** Of no answer: nothing is multiplied. */
    private static void givenOfNoAnswer() {
        SecretLots x = Check.with(States.WARNER);
        x.answer(22, 0, 1);
        for (int p : new int[] {0, 21, 23}) {
            Check.fraction("given of " + p, x.given(p, 0), x.given(p, 1), 1, 1);
        }
        Check.fraction("given of 22", x.given(22, 0), x.given(22, 1), 5, 1);
        x.takeBack(0);
        Check.fraction("given of 22, taken back", x.given(22, 0), x.given(22, 1), 1, 1);
    }

    /** "of all KNOWN ANSWERS of it, multiplied, of each DESIGN the first two at most". */
    private static void givenOfTheFirstTwoAtMost() {
        SecretLots x = Check.with(States.WARNER);
        long[] above = {5, 25, 25, 25};
        for (int i = 0; i < 4; i++) {
            x.answer(3, 0, i < 3 ? YES : NO);
            Check.fraction("given of " + (i + 1), x.given(3, 0), x.given(3, 1), above[i], 1);
        }
        x.pass(1);
        x.takeBack(1);
        Check.fraction("of the first and third", x.given(3, 0), x.given(3, 1), 25, 1);
        x.takeBack(0);
        Check.fraction("of the third and fourth", x.given(3, 0), x.given(3, 1), 1, 1);
        x.takeBack(3);
        Check.fraction("of the third", x.given(3, 0), x.given(3, 1), 5, 1);
        x.asOf(0);
        Check.fraction("as of the day before, of the first two", x.given(3, 0), x.given(3, 1), 25, 1);
    }

    /** Eight at most count, told in whatever order. */
    private static void givenOfTwoOfEachOfFourDesigns() {
        SecretLots x = Check.with(BY_4, BY_4, States.WARNER, "t1/2;y1/4;n1/4");
        for (int i = 0; i < 12; i++) {
            x.answer(23, i % 4, YES);
        }
        Check.fraction("given", x.given(23, 0), x.given(23, 1), 4 * 4 * 4 * 4 * 25 * 9, 1);
        x.answer(22, 3, NO);
        x.answer(22, 0, NO);
        x.answer(22, 3, NO);
        x.answer(22, 0, NO);
        x.answer(22, 3, YES);
        Check.fraction("given of no", x.given(22, 0), x.given(22, 1), 1, 144);
    }

    /** "NONE, where one of them is": of those that count. */
    private static void givenIsNoneWhereOneOfThemIs() {
        SecretLots x = Check.with("t1/2;n1/2", States.WARNER);
        int[][] said = {{YES, NO, NO}, {NO, YES, NO}, {NO, NO, YES}};
        for (int p = 0; p < 3; p++) {
            x.answer(p, 1, YES);
            for (int yes : said[p]) {
                x.answer(p, 0, yes);
            }
        }
        Check.due("NONE is the first", x.given(0, 0), Check.refused(NOT));
        Check.due("NONE is the second", x.given(1, 0), Check.refused(NOT));
        Check.fraction("NONE is the third", x.given(2, 0), x.given(2, 1), 5, 4);
    }

    /** "FULL, where above or below .. comes above 1000000000": just that is not above it. */
    private static void givenUpTo1000000000() {
        upTo("t19/20;y1/20", "t1/2;u1/2", "t9/10;y1/10", 0);
        beyond("t17/18;y1/18", "t7/15;u8/15", "t18/19;u1/19", 0);
    }

    private static void givenUpTo1000000000Below() {
        upTo("o19/20;y1/20", "o1/2;u1/2", "o9/10;y1/10", 1);
        beyond("o17/18;y1/18", "o7/15;u8/15", "o18/19;u1/19", 1);
    }

    /** 20 times 20, twice, 25 times 25, 10. */
    private static void upTo(String by20, String by25, String by10, int what) {
        SecretLots x = Check.with(by20, by20, by25, by10);
        x.other(1);
        for (int i = 0; i < 7; i++) {
            x.answer(0, i / 2, YES);
        }
        Check.due("given of just the most", x.given(0, what), 1000000000L);
        Check.due("the other one", x.given(0, 1 - what), 1);
        x.answer(0, 3, YES);
        Check.due("given of ten times that", x.given(0, what), Check.refused(FULL));
        Check.due("the other one is refused, too", x.given(0, 1 - what), Check.refused(FULL));
    }

    /** 18 times 18, twice, 22, 433: 1376 above it. */
    private static void beyond(String by18, String by22, String by433, int what) {
        SecretLots x = Check.with(by18, by18, by22, by433);
        x.other(1);
        for (int i = 0; i < 5; i++) {
            x.answer(0, i / 2, YES);
        }
        Check.due("given yet", x.given(0, what), 18L * 18 * 18 * 18 * 22);
        x.answer(0, 3, YES);
        Check.due("given just above the most", x.given(0, what), Check.refused(FULL));
        Check.due("the other one is refused, too", x.given(0, 1 - what), Check.refused(FULL));
        Check.due("has is refused", x.has(0, 1, what), Check.refused(FULL));
    }

    /** "(in lowest terms ..)": what is turned over takes away again. */
    private static void givenInLowestTerms() {
        SecretLots x = Check.with(LARGE, TURNED, LARGE, TURNED);
        x.other(13);
        for (int i = 0; i < 8; i++) {
            x.answer(0, i % 4, YES);
            long above = i % 2 == 0 ? 253 : 1;
            long below = i % 2 == 0 ? 229 : 1;
            Check.fraction("given of " + (i + 1), x.given(0, 0), x.given(0, 1), above, below);
        }
    }

    /** "ANSWER by ANSWER": what comes above the most on the way is FULL, though it would not be at the end. */
    private static void givenAnswerByAnswer() {
        SecretLots x = Check.with(LARGE, LARGE, TURNED, TURNED);
        x.other(13);
        for (int i = 0; i < 8; i++) {
            x.answer(0, i / 2, YES);
        }
        Check.due("given, the like ones first", x.given(0, 0), Check.refused(FULL));
        x.takeBack(0);
        Check.fraction("given of seven", x.given(0, 0), x.given(0, 1), 229, 253);
    }

    /** Multiplied by 0 it is 0 by 1, however large it would be. */
    private static void givenOf0StaysThere() {
        SecretLots x = Check.with("t1/2;y1/2", "t19/20;y1/20", "t19/20;y1/20", "t19/20;y1/20");
        x.answer(0, 0, NO);
        for (int i = 2; i < 8; i++) {
            x.answer(0, i / 2, YES);
            x.answer(1, i / 2, YES);
            x.answer(2, i / 2, YES);
        }
        Check.fraction("0 first", x.given(0, 0), x.given(0, 1), 0, 1);
        Check.due("64000000", x.given(1, 0), 64000000);
        x.answer(1, 0, NO);
        Check.fraction("0 behind", x.given(1, 0), x.given(1, 1), 0, 1);
        Check.fraction("has of 0", x.has(1, 99, 0), x.has(1, 99, 1), 0, 1);
        Check.due("may where it is 0", x.may(0, 0), 0);
    }

    /** given: "NOT: a FAULT of a DESIGN by which a KNOWN ANSWER of it is", also a third; not one that is not known. */
    private static void givenWithAFault() {
        SecretLots x = Check.with(States.WARNER, BY_4);
        x.answer(0, 0, YES);
        x.answer(0, 1, YES);
        x.pass(1);
        x.type(1, ';');
        Check.due("with a fault", x.given(0, 0), Check.refused(NOT));
        Check.due("has with a fault", x.has(0, 50, 0), Check.refused(NOT));
        Check.fraction("another person", x.given(1, 0), x.given(1, 1), 1, 1);
        x.takeBack(1);
        Check.fraction("by an answer that is taken back", x.given(0, 0), x.given(0, 1), 5, 1);
        x.asOf(0);
        Check.due("as of the day before", x.given(0, 0), Check.refused(NOT));
        x.wipe(1);
        Check.due("by an empty text", x.given(0, 0), Check.refused(NOT));
        Check.text(x, 1, "t1/1");
        Check.due("by another text, that is NONE", x.given(0, 0), Check.refused(NOT));
        Check.due("has then", x.has(0, 50, 0), 1);
    }

    /** "or NONE (ahead of FULL)", in whatever order they were told. */
    private static void givenNoneAheadOfFull() {
        SecretLots x = Check.with("t18/19;u1/19", "t18/19;u1/19", "t1/2;n1/2");
        x.other(1);
        x.answer(1, 2, YES);
        for (int p = 0; p < 3; p++) {
            for (int i = 0; i < 4; i++) {
                x.answer(p, i / 2, YES);
            }
        }
        x.answer(0, 2, YES);
        Check.due("NONE behind FULL", x.given(0, 0), Check.refused(NOT));
        Check.due("NONE ahead of FULL", x.given(1, 0), Check.refused(NOT));
        Check.due("FULL alone", x.given(2, 0), Check.refused(FULL));
        Check.due("has of both", x.has(0, 7, 0), 1);
        Check.due("has of both, below", x.has(1, 7, 1), 1);
        Check.due("has of FULL alone", x.has(2, 7, 1), Check.refused(FULL));
    }

    /** "so many of 100 who HAVE it (told, 1 to 99)". */
    private static void hasBySharesFrom1To99() {
        SecretLots x = Check.with(States.WARNER);
        x.answer(0, 0, YES);
        Check.fraction("by 1", x.has(0, 1, 0), x.has(0, 1, 1), 5, 104);
        Check.fraction("by 99", x.has(0, 99, 0), x.has(0, 99, 1), 495, 496);
        Check.due("by 0", x.has(0, 0, 0), Check.refused(BAD));
        Check.due("by 100", x.has(0, 100, 0), Check.refused(BAD));
        x.answer(1, 0, NO);
        Check.fraction("of no by 1", x.has(1, 1, 0), x.has(1, 1, 1), 1, 496);
        Check.fraction("of no by 99", x.has(1, 99, 0), x.has(1, 99, 1), 99, 104);
    }

    /** More than an int holds. */
    private static void hasOfTheMostGivenAway() {
        SecretLots x = Check.with("t19/20;y1/20", "t19/20;y1/20", "t1/2;u1/2", "t9/10;y1/10");
        SecretLots y = Check.with("o19/20;y1/20", "o19/20;y1/20", "o1/2;u1/2", "o9/10;y1/10");
        x.other(1);
        y.other(1);
        for (int i = 0; i < 7; i++) {
            x.answer(0, i / 2, YES);
            y.answer(0, i / 2, YES);
        }
        Check.fraction("by 99", x.has(0, 99, 0), x.has(0, 99, 1), 99000000000L, 99000000001L);
        Check.fraction("by 1", x.has(0, 1, 0), x.has(0, 1, 1), 1000000000L, 1000000099L);
        Check.fraction("of the least by 99", y.has(0, 99, 0), y.has(0, 99, 1), 99, 1000000099L);
        Check.fraction("of the least by 1", y.has(0, 1, 0), y.has(0, 1, 1), 1, 99000000001L);
    }

    /** "NONE of GIVEN AWAY is 1 by 1." */
    private static void hasOfNoneIs1By1() {
        SecretLots x = Check.with("t1/2;n1/2");
        x.answer(0, 0, YES);
        for (int s : new int[] {1, 50, 99}) {
            Check.fraction("by " + s, x.has(0, s, 0), x.has(0, s, 1), 1, 1);
        }
        Check.due("by 0", x.has(0, 0, 0), Check.refused(BAD));
        Check.due("by 100", x.has(0, 100, 1), Check.refused(BAD));
        Check.due("what 2", x.has(0, 50, 2), Check.refused(BAD));
    }

    /** Of one who was not asked it is s by 100. */
    private static void hasOfNothing() {
        SecretLots x = new SecretLots();
        Check.fraction("by 1", x.has(0, 1, 0), x.has(0, 1, 1), 1, 100);
        Check.fraction("by 50", x.has(23, 50, 0), x.has(23, 50, 1), 1, 2);
        Check.fraction("by 99", x.has(0, 99, 0), x.has(0, 99, 1), 99, 100);
    }

    private static void exposedIs(String text, int other, long above, long below) {
        SecretLots x = Check.with("", "", text);
        x.other(other);
        Check.fraction("exposed of " + text, x.exposed(2, 0), x.exposed(2, 1), above, below);
    }

    /** "greatest of: GIVEN AWAY by yes, by no, and of both what is turned over". */
    private static void exposedIsTheGreatestOfFour() {
        exposedIs("t1/4;y1/4;n1/2", 12, 2, 1);
        exposedIs("o1/4;y1/2;n1/4", 12, 2, 1);
        exposedIs("o1/4;y1/4;n1/2", 12, 2, 1);
        exposedIs("t1/4;y1/2;n1/4", 12, 2, 1);
        // yes 13 by 3, yes 3 by 13, no 13 by 3, no 3 by 13
        exposedIs("t1/2;y3/20;n7/20", 12, 13, 3);
        exposedIs("o1/2;y3/20;n7/20", 12, 13, 3);
        exposedIs("o1/2;n3/20;y7/20", 12, 13, 3);
        exposedIs("t1/2;n3/20;y7/20", 12, 13, 3);
        exposedIs(States.WARNER, 12, 5, 1);
        exposedIs("t19/20;u1/20", 1, 457, 1);
        exposedIs("t19/20;u1/20", 23, 457, 1);
    }

    /** "NONE, if one of them cannot be told (something by 0)"; exposed: "NOT: also NONE." */
    private static void exposedIsNoneIfSomethingIsBy0() {
        String[] texts = {"t1/2;n1/2", "t1/2;y1/2", "o1/2;n1/2", "o1/2;y1/2", "t1/1", "o1/1", "y1/1", "n1/1"};
        for (String text : texts) {
            SecretLots x = Check.with("", text);
            Check.due("exposed of " + text, x.exposed(1, 0), Check.refused(NOT));
            Check.due("exposed of " + text + " below", x.exposed(1, 1), Check.refused(NOT));
            Check.due("may by " + text, x.may(0, 1), 0);
        }
        SecretLots x = Check.with("u1/1", "t1/2;u1/2");
        for (int other : new int[] {0, 24}) {
            x.other(other);
            Check.due("exposed with " + other, x.exposed(0, 0), Check.refused(NOT));
            Check.due("exposed of the other with " + other, x.exposed(1, 0), Check.refused(NOT));
        }
        x.other(1);
        Check.fraction("exposed with 1", x.exposed(1, 0), x.exposed(1, 1), 25, 1);
    }

    /** It is there, too, if the design does not tell. */
    private static void exposedOfOneThatDoesNotTell() {
        exposedIs("u1/1", 1, 1, 1);
        exposedIs("t1/2;o1/2", 12, 1, 1);
        exposedIs(States.SAME, 12, 1, 1);
    }

    /** "LIMIT (told, 1 to 1000 ..)": what it was. */
    private static void limitIs1To1000() {
        SecretLots x = new SecretLots();
        Check.due("to 1", x.limit(1), 100);
        Check.due("to 0", x.limit(0), BAD);
        Check.due("it stays 1", x.count(6), 1);
        Check.due("to 1000", x.limit(1000), 1);
        Check.due("to 1001", x.limit(1001), BAD);
        Check.due("to -1", x.limit(-1), BAD);
        Check.due("it stays 1000", x.count(6), 1000);
        Check.due("to 1000 again", x.limit(1000), 1000);
        Check.due("to 999", x.limit(999), 1000);
    }

    /** "100 at first": 5 times 5 times 4 is just that, and no more. */
    private static void limitIs100AtFirst() {
        SecretLots x = Check.with(States.WARNER, BY_4);
        Check.due("at first", x.count(6), 100);
        for (int i = 0; i < 2; i++) {
            x.answer(0, 0, YES);
            x.answer(1, 0, NO);
        }
        Check.due("may at just the limit", x.may(0, 1), 1);
        Check.due("may at just the limit, turned over", x.may(1, 1), 1);
        Check.due("it was", x.limit(99), 100);
        Check.due("may just above the limit", x.may(0, 1), 0);
        Check.due("may just above the limit, turned over", x.may(1, 1), 0);
        x.limit(101);
        Check.due("may below the limit", x.may(0, 1), 1);
        Check.due("may below the limit, turned over", x.may(1, 1), 1);
    }

    /** With a limit of 1 nobody may be asked by what tells. */
    private static void mayUpToALimitOf1() {
        SecretLots x = Check.with("t10/20;o9/20;u1/20", States.SAME, States.WARNER);
        x.limit(1);
        Check.due("may by the least that tells", x.may(0, 0), 0);
        Check.due("may by what does not tell", x.may(0, 1), 0);
        x.answer(0, 2, YES);
        Check.due("may where no would make it 1", x.may(0, 2), 0);
        x.limit(2);
        Check.due("may by the least with 2", x.may(1, 0), 1);
    }

    /** The greatest limit: 10 times 10 times 10. */
    private static void mayUpToALimitOf1000() {
        SecretLots x = Check.with(BY_10, BY_10);
        for (int i = 0; i < 2; i++) {
            x.answer(0, 0, YES);
            x.answer(1, 0, NO);
        }
        x.limit(1000);
        Check.due("may at just the limit", x.may(0, 1), 1);
        Check.due("may at just the limit, turned over", x.may(1, 1), 1);
        x.limit(999);
        Check.due("may above the limit", x.may(0, 1), 0);
        Check.due("may above the limit, turned over", x.may(1, 1), 0);
        x.limit(1000);
        x.answer(0, 1, YES);
        x.answer(1, 1, NO);
        Check.due("may above the greatest limit", x.may(0, 1), 0);
        Check.due("may above the greatest limit, turned over", x.may(1, 1), 0);
    }

    /** "whatever is said then, GIVEN AWAY of the PERSON, and it turned over, are LIMIT at most". */
    private static void mayWhateverIsSaidThen() {
        // by yes 3 by 2 and by no 1 by 2; and the same with each of the three others the greatest
        String[] texts = {"t1/4;y1/2;n1/4", "t1/4;y1/4;n1/2", "o1/4;y1/2;n1/4", "o1/4;y1/4;n1/2"};
        for (String text : texts) {
            SecretLots x = Check.with(text);
            x.limit(2);
            Check.due("may at 2 by " + text, x.may(0, 0), 1);
            x.limit(1);
            Check.due("may at 1 by " + text, x.may(0, 0), 0);
        }
        SecretLots x = Check.with("t1/4;y1/2;n1/4", BY_4);
        x.answer(0, 1, YES);
        x.answer(1, 1, NO);
        int[][] due = {{5, 0, 0}, {6, 1, 0}, {7, 1, 0}, {8, 1, 1}};
        for (int[] d : due) {
            x.limit(d[0]);
            Check.due("4 times 3 by 2, limit " + d[0], x.may(0, 0), d[1]);
            Check.due("1 by 4 times 1 by 2, limit " + d[0], x.may(1, 0), d[2]);
        }
    }

    /** "if it TELLS". */
    private static void mayOnlyIfItTells() {
        SecretLots x = Check.with(States.SAME, "t1/2;o1/2", "u1/1", "t10/19;o9/19");
        x.limit(1000);
        int[] due = {0, 0, 0, 1};
        for (int d = 0; d < 4; d++) {
            Check.due("may by " + d, x.may(0, d), due[d]);
        }
    }

    /** "EXPOSED is there". */
    private static void mayOnlyIfExposedIsThere() {
        SecretLots x = Check.with("t1/2;u1/2", "t1/2;y1/2", "t1/2;n1/2", "o1/2;y1/2");
        x.limit(1000);
        Check.due("may with OTHER 12", x.may(0, 0), 1);
        x.other(0);
        Check.due("may with OTHER 0", x.may(0, 0), 0);
        x.other(24);
        Check.due("may with OTHER 24", x.may(0, 0), 0);
        x.other(23);
        Check.due("may with OTHER 23", x.may(0, 0), 1);
        for (int d = 1; d < 4; d++) {
            Check.due("may by " + d, x.may(0, d), 0);
        }
    }

    /** "with not more than two ANSWERS by it that are KNOWN (two or more: it may not)". */
    private static void mayWithNotMoreThanTwoAnswers() {
        SecretLots x = Check.with(BY_4, BY_4);
        x.limit(1000);
        int[] due = {1, 1, 0, 0};
        for (int i = 0; i < 4; i++) {
            Check.due("may with " + i, x.may(0, 0), due[i]);
            x.answer(0, 0, i % 2);
        }
        Check.due("may by another of the same text", x.may(0, 1), 1);
        Check.due("may of another person", x.may(1, 0), 1);
        x.pass(1);
        x.takeBack(0);
        x.takeBack(1);
        Check.due("may with two of four", x.may(0, 0), 0);
        x.takeBack(2);
        Check.due("may with one of four", x.may(0, 0), 1);
        x.asOf(0);
        Check.due("may as of the day before", x.may(0, 0), 0);
    }

    /** may: "0 also where given() is refused". */
    private static void mayWhereGivenIsRefused() {
        SecretLots x = Check.with(BY_4, "t18/19;u1/19", "t18/19;u1/19", "t1/2;n1/2");
        x.limit(1000);
        x.other(1);
        for (int i = 0; i < 4; i++) {
            x.answer(0, 1 + i / 2, YES);
        }
        Check.due("may where it is FULL", x.may(0, 0), 0);
        x.answer(1, 3, YES);
        Check.due("may where it is NONE", x.may(1, 0), 0);
        x.answer(2, 3, NO);
        Check.due("may yet", x.may(2, 0), 1);
        x.type(3, ';');
        Check.due("may with a fault of another design", x.may(2, 0), 0);
        Check.due("may of one not asked by it", x.may(3, 0), 1);
        Check.due("may by the fault itself", x.may(3, 3), NOT);
    }

    /** What would be FULL with one answer more cannot be told to be LIMIT at most. */
    private static void mayWhereItWouldBeFull() {
        SecretLots x = Check.with(LARGE, LARGE, LARGE);
        x.other(13);
        x.limit(1000);
        for (int i = 0; i < 3; i++) {
            x.answer(0, i / 2, YES);
        }
        Check.due("given", x.given(0, 0), 253L * 253 * 253);
        Check.due("may with three", x.may(0, 2), 0);
        x.takeBack(2);
        Check.due("may with two", x.may(0, 2), 1);
    }
}
