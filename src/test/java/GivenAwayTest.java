/** Promises 22 to 27. */
public final class GivenAwayTest {
    private static final int BAD = SecretLots.BAD, NOT = SecretLots.NOT, FULL = SecretLots.FULL;
    private static final String WARNER = "t2/3;y1/6;n1/6";
    /** If OTHER is 13, who has it says yes with 253 by 480, who has not with 229 by 480; and the opposite. */
    private static final String LARGE = "t1/2;o9/20;u1/20", TURNED = "o1/2;t9/20;u1/20";

    public static void main(String[] args) {
        away();
        given();
        givenOfTwoAtMost();
        givenFaultNoneFull();
        givenUpToTheMost("t19/20;y1/20", "t1/2;u1/2", "t9/10;y1/10", 0);
        givenUpToTheMost("o19/20;y1/20", "o1/2;u1/2", "o9/10;y1/10", 1);
        has();
        exposed();
        limit();
        may();
        mayWhereRefused();
        mayWhereItWouldBeFull();
        Check.end("GivenAwayTest");
    }

    private static void away() {
        SecretLots x = Check.with(WARNER, "t1/2;y1/2", "t1/2;n1/2", "t1/2");
        Check.due("away of design -1", x.away(-1, 0, 0), Check.refused(BAD));
        Check.due("away of design 4", x.away(4, 0, 0), Check.refused(BAD));
        Check.due("away by yes 2", x.away(0, 2, 0), Check.refused(BAD));
        Check.due("away by yes -1", x.away(3, -1, 0), Check.refused(BAD));
        Check.due("away what 2", x.away(0, 0, 2), Check.refused(BAD));
        Check.due("away of a fault", x.away(3, 0, 0), Check.refused(NOT));
        Check.fraction("by yes", x.away(0, 1, 0), x.away(0, 1, 1), 5, 1);
        Check.fraction("by no", x.away(0, 0, 0), x.away(0, 0, 1), 1, 5);
        Check.fraction("by yes of 1", x.away(1, 1, 0), x.away(1, 1, 1), 2, 1);
        Check.fraction("by no of 1", x.away(1, 0, 0), x.away(1, 0, 1), 0, 1);
        Check.due("by yes of 2", x.away(2, 1, 0), Check.refused(NOT));
        Check.fraction("by no of 2", x.away(2, 0, 0), x.away(2, 0, 1), 1, 2);
    }

    private static void given() {
        SecretLots x = Check.with(WARNER, "t1/2;y1/4;n1/4");
        Check.due("given of person -1", x.given(-1, 0), Check.refused(BAD));
        Check.due("given of person 24", x.given(24, 0), Check.refused(BAD));
        Check.due("given what 2", x.given(0, 2), Check.refused(BAD));
        Check.fraction("of nothing", x.given(0, 0), x.given(0, 1), 1, 1);
        x.answer(7, 0, 1);
        Check.fraction("of one", x.given(7, 0), x.given(7, 1), 5, 1);
        Check.fraction("of another person", x.given(6, 0), x.given(6, 1), 1, 1);
        x.answer(7, 1, 0);
        Check.fraction("of two designs", x.given(7, 0), x.given(7, 1), 5, 3);
        x.group(7, 3);
        Check.fraction("whatever the group", x.given(7, 0), x.given(7, 1), 5, 3);
        x.pass(1);
        x.takeBack(0);
        Check.fraction("of one taken back", x.given(7, 0), x.given(7, 1), 1, 3);
        x.asOf(0);
        Check.fraction("as of the day before", x.given(7, 0), x.given(7, 1), 5, 3);
    }

    private static void givenOfTwoAtMost() {
        SecretLots x = Check.with(WARNER, "t1/2;n1/2");
        Check.answers(x, 1, "n");
        x.answer(0, 0, 1);
        x.answer(0, 0, 1);
        x.answer(0, 0, 0);
        Check.fraction("of the first two", x.given(0, 0), x.given(0, 1), 25, 2);
        x.takeBack(1);
        Check.fraction("the third counts then", x.given(0, 0), x.given(0, 1), 1, 2);
        x.answer(0, 1, 0);
        x.answer(0, 1, 1);
        Check.fraction("a third that is NONE is not one of them", x.given(0, 0), x.given(0, 1), 1, 4);
        x.takeBack(0);
        Check.due("NONE as a second", x.given(0, 0), Check.refused(NOT));
    }

    private static void givenFaultNoneFull() {
        SecretLots x = Check.with(LARGE, LARGE, TURNED, "t1/2;n1/2");
        x.other(13);
        for (int i = 0; i < 3; i++) {
            x.answer(0, i / 2, 1);
            x.answer(1, i / 2, 0);
        }
        Check.fraction("of three", x.given(0, 0), x.given(0, 1), 253L * 253 * 253, 229L * 229 * 229);
        Check.fraction("of three no", x.given(1, 0), x.given(1, 1), 227L * 227 * 227, 251L * 251 * 251);
        x.answer(0, 1, 1);
        x.answer(1, 1, 0);
        Check.due("FULL above", x.given(0, 1), Check.refused(FULL));
        Check.due("FULL below", x.given(1, 0), Check.refused(FULL));
        Check.due("has is FULL", x.has(0, 50, 0), Check.refused(FULL));
        x.answer(0, 2, 1);
        Check.due("FULL on the way", x.given(0, 0), Check.refused(FULL));
        x.takeBack(0);
        Check.fraction("one taken back", x.given(0, 0), x.given(0, 1), 253L * 253, 229L * 229);
        x.answer(0, 0, 1);
        Check.fraction("and told again, later", x.given(0, 0), x.given(0, 1), 253L * 253 * 253, 229L * 229 * 229);
        x.answer(1, 3, 1);
        Check.due("NONE ahead of FULL", x.given(1, 0), Check.refused(NOT));
        Check.due("has of NONE, though FULL", x.has(1, 50, 0), 1);
        x.wipe(2);
        Check.due("given of a fault", x.given(0, 0), Check.refused(NOT));
        Check.due("given of one who was not asked by it", x.given(2, 0), 1);
        x.wipe(0);
        Check.due("has of a fault, though NONE", x.has(1, 50, 0), Check.refused(NOT));
    }

    /** Yes is 20, 25 and 10 times as likely for the one as for the other: 1000000000 together, and then more. */
    private static void givenUpToTheMost(String by20, String by25, String by10, int what) {
        SecretLots x = Check.with(by20, by20, by25, by10);
        x.other(1);
        for (int i = 0; i < 7; i++) {
            x.answer(0, i / 2, 1);
        }
        Check.due("given up to the most", x.given(0, what), 1000000000L);
        Check.due("given by", x.given(0, 1 - what), 1);
        Check.due("has by the most", x.has(0, 50, what), what == 0 ? 1000000000L : 1000000001L);
        x.answer(0, 3, 1);
        Check.due("given above the most", x.given(0, what), Check.refused(FULL));
    }

    private static void has() {
        SecretLots x = Check.with(WARNER, "t1/2;n1/2", "t1/2;y1/2");
        Check.due("has of person 24", x.has(24, 50, 0), Check.refused(BAD));
        Check.due("has of person -1", x.has(-1, 50, 0), Check.refused(BAD));
        Check.due("has by 0", x.has(0, 0, 0), Check.refused(BAD));
        Check.due("has by 100", x.has(0, 100, 0), Check.refused(BAD));
        Check.due("has what 2", x.has(0, 50, 2), Check.refused(BAD));
        Check.fraction("of nothing", x.has(0, 25, 0), x.has(0, 25, 1), 1, 4);
        x.answer(0, 0, 1);
        Check.fraction("by 1", x.has(0, 1, 0), x.has(0, 1, 1), 5, 104);
        Check.fraction("by 99", x.has(0, 99, 0), x.has(0, 99, 1), 495, 496);
        x.answer(1, 0, 0);
        Check.fraction("of no", x.has(1, 50, 0), x.has(1, 50, 1), 1, 6);
        x.answer(2, 1, 1);
        Check.fraction("of NONE", x.has(2, 10, 0), x.has(2, 10, 1), 1, 1);
        x.answer(3, 2, 0);
        Check.fraction("of 0", x.has(3, 10, 0), x.has(3, 10, 1), 0, 1);
    }

    private static void exposed() {
        SecretLots x = Check.with(WARNER, "t1/4;y1/2;n1/4", "t1/2;y1/2", "t1/2");
        Check.due("exposed of design -1", x.exposed(-1, 0), Check.refused(BAD));
        Check.due("exposed of design 4", x.exposed(4, 0), Check.refused(BAD));
        Check.due("exposed what 2", x.exposed(3, 2), Check.refused(BAD));
        Check.due("exposed of a fault", x.exposed(3, 0), Check.refused(NOT));
        Check.due("exposed if all who have it say yes", x.exposed(2, 0), Check.refused(NOT));
        Check.fraction("exposed", x.exposed(0, 0), x.exposed(0, 1), 5, 1);
        // 3/4 and 1/2 say yes: 3/2 by yes, 2 by no turned over
        Check.fraction("by no turned over", x.exposed(1, 0), x.exposed(1, 1), 2, 1);
        exposedOf("o1/4;y1/2;n1/4", 2, 1);
        exposedOf("t1/4;y1/4;n1/2", 2, 1);
        exposedOf("o1/4;y1/4;n1/2", 2, 1);
        exposedOf("t1/2;y3/20;n7/20", 13, 3);
        exposedOf("t1/2;n3/20;y7/20", 13, 3);
        exposedOf("u1/1", 1, 1);
        exposedOf("t3/7;o2/7;u2/7", 4, 3);
        noneExposed("y1/1");
        noneExposed("n1/1");
        noneExposed("t1/2;n1/2");
        noneExposed("o1/2;n1/2");
        noneExposed("o1/2;y1/2");
        noneExposed("t1/1");
    }

    private static void exposedOf(String text, int above, int below) {
        SecretLots x = Check.with(text);
        Check.fraction("exposed of " + text, x.exposed(0, 0), x.exposed(0, 1), above, below);
    }

    private static void noneExposed(String text) {
        SecretLots x = Check.with(text);
        Check.due("exposed of " + text, x.exposed(0, 1), Check.refused(NOT));
    }

    private static void limit() {
        SecretLots x = new SecretLots();
        Check.due("limit(0)", x.limit(0), BAD);
        Check.due("limit(1001)", x.limit(1001), BAD);
        Check.due("limit(1)", x.limit(1), 100);
        Check.due("limit(1000)", x.limit(1000), 1);
        Check.due("count(6)", x.count(6), 1000);
    }

    private static void may() {
        SecretLots x = Check.with(WARNER, "t1/2;y1/4;n1/4", "u1/1", "t1/2");
        Check.due("may of person -1", x.may(-1, 0), BAD);
        Check.due("may of person 24", x.may(24, 0), BAD);
        Check.due("may by design 4", x.may(0, 4), BAD);
        Check.due("may by design -1", x.may(0, -1), BAD);
        Check.due("may by a fault", x.may(0, 3), NOT);
        Check.due("may by one that does not tell", x.may(0, 2), 0);
        Check.due("may", x.may(0, 0), 1);
        x.limit(5);
        Check.due("may at the limit", x.may(0, 0), 1);
        x.limit(4);
        Check.due("may above the limit", x.may(0, 0), 0);
        x.limit(15);
        x.answer(0, 0, 1);
        Check.due("may at the limit of both", x.may(0, 1), 1);
        x.limit(14);
        Check.due("may above the limit of both", x.may(0, 1), 0);
        x.answer(1, 0, 0);
        Check.due("may above the limit, turned over", x.may(1, 1), 0);
        x.limit(15);
        Check.due("may at the limit, turned over", x.may(1, 1), 1);
        x.limit(1000);
        x.answer(0, 0, 0);
        Check.due("may a third time", x.may(0, 0), 0);
        Check.due("may by another", x.may(0, 1), 1);
        x.pass(1);
        x.takeBack(0);
        Check.due("may again", x.may(0, 0), 1);
        x.asOf(0);
        Check.due("may as of the day before", x.may(0, 0), 0);
    }

    private static void mayWhereRefused() {
        SecretLots x = Check.with(WARNER, "t1/2;n1/2", "t1/2;y1/2", "t1/2;y1/4;n1/4");
        x.limit(1000);
        Check.due("may by one that is not exposed", x.may(0, 1), 0);
        Check.due("may by another", x.may(0, 2), 0);
        x.answer(0, 1, 1);
        Check.due("may where given is NONE", x.may(0, 0), 0);
        x.answer(1, 2, 0);
        Check.due("may where given is 0", x.may(1, 0), 0);
        x.answer(2, 3, 0);
        Check.due("may yet", x.may(2, 0), 1);
        x.wipe(3);
        Check.due("may where given has a fault", x.may(2, 0), 0);
        Check.due("may of another", x.may(3, 0), 1);
    }

    private static void mayWhereItWouldBeFull() {
        SecretLots x = Check.with(LARGE, LARGE, LARGE);
        x.other(13);
        x.limit(1000);
        for (int i = 0; i < 3; i++) {
            x.answer(0, i / 2, 1);
        }
        Check.fraction("of three", x.given(0, 0), x.given(0, 1), 253L * 253 * 253, 229L * 229 * 229);
        Check.due("may where it would be FULL then", x.may(0, 2), 0);
        x.takeBack(2);
        Check.due("may where it would not", x.may(0, 2), 1);
    }
}
