/** The document's sentences on days, people and answers that name a boundary case: part 2, promises 8 to 15. */
public final class PeopleEdgesTest {
    private static final int BAD = SecretLots.BAD, NOT = SecretLots.NOT, FULL = SecretLots.FULL, NONE = SecretLots.NONE;

    public static void main(String[] args) {
        days0To399();
        oneTo100DaysGoBy();
        aboveDay399NothingGoesBy();
        peopleAreIn4Groups();
        groupBecomesWhatItWas();
        answersAre120AtMost();
        answersTakenBackStayAmongThe120();
        anAnswersNumber();
        readAsManyAsAreWhole();
        readAsLongAsEachMayBe();
        readOfEachType();
        readUpTo120();
        readOfAFullSheet();
        takeBackOnce();
        takenBackOnTheDay();
        aboutEachAnswer();
        asOfIsNotBehindTheDay();
        asOfNoneIsTheDay();
        asOfStaysWhenTheDayGoesOn();
        knownIfToldUpToIt();
        knownIfNotTakenBackUpToIt();
        toldAndTakenBackOnOneDay();
        pollOfNobody();
        pollOfAll();
        pollOfEachPersonTheFirstAlone();
        pollOfPeopleThatAreInTheGroupNow();
        pollByADesignAlone();
        pollByAFault();
        Check.end("PeopleEdgesTest");
    }

    /** "DAYS 0 .. 399; it is a DAY (0 at first), that goes on." */
    private static void days0To399() {
        SecretLots x = Check.with("t1/1");
        Check.due("the day at first", x.count(0), 0);
        x.answer(0, 0, 1);
        x.pass(100);
        x.pass(100);
        x.pass(100);
        Check.due("pass to the day before the last", x.pass(98), 398);
        Check.due("pass two more", x.pass(2), BAD);
        Check.due("pass to the last", x.pass(1), 399);
        Check.due("pass one more", x.pass(1), BAD);
        Check.due("the last day", x.count(0), 399);
        x.answer(1, 0, 1);
        Check.due("told on the first", x.about(0, 3), 0);
        Check.due("told on the last", x.about(1, 3), 399);
        x.takeBack(1);
        Check.due("taken back on the last", x.about(1, 4), 399);
        Check.due("as of the last", x.asOf(399), NONE);
        Check.due("behind the last", x.asOf(400), BAD);
    }

    /** "n DAYS (1 to 100) go by: the DAY then." */
    private static void oneTo100DaysGoBy() {
        SecretLots x = new SecretLots();
        Check.due("pass(1)", x.pass(1), 1);
        Check.due("pass(100)", x.pass(100), 101);
        Check.due("pass(0)", x.pass(0), BAD);
        Check.due("pass(101)", x.pass(101), BAD);
        Check.due("pass(99)", x.pass(99), 200);
        Check.due("pass(-1)", x.pass(-1), BAD);
        Check.due("the day", x.count(0), 200);
    }

    /** "BAD: also above 399." */
    private static void aboveDay399NothingGoesBy() {
        Unchanged.State state = () -> {
            SecretLots x = new SecretLots();
            for (int i = 0; i < 3; i++) {
                x.pass(100);
            }
            return x;
        };
        Unchanged.refused("pass to day 400", state, x -> x.pass(100), BAD);
        SecretLots x = state.made();
        Check.due("pass to day 399", x.pass(99), 399);
        Unchanged.State last = () -> {
            SecretLots y = state.made();
            y.pass(99);
            y.asOf(0);
            return y;
        };
        Unchanged.refused("pass from day 399", last, y -> y.pass(1), BAD);
        Unchanged.refused("pass 100 from day 399", last, y -> y.pass(100), BAD);
        Unchanged.refused("pass what wraps around", last, y -> y.pass(Integer.MAX_VALUE), BAD);
    }

    /** "PEOPLE 0 .. 23 are in GROUPS 0 .. 3 (0 at first)." */
    private static void peopleAreIn4Groups() {
        SecretLots x = new SecretLots();
        for (int p = 0; p < 24; p++) {
            Check.due("the group of " + p + " at first", x.group(p, p % 4), 0);
        }
        for (int p = 0; p < 24; p++) {
            Check.due("the group of " + p, x.group(p, 3 - p % 4), p % 4);
        }
        for (int p = 0; p < 24; p++) {
            Check.due("the group of " + p + " then", x.group(p, 0), 3 - p % 4);
        }
        Check.due("person 24", x.group(24, 0), BAD);
        Check.due("group 4", x.group(23, 4), BAD);
        Check.due("group -1", x.group(0, -1), BAD);
        Check.due("it stays", x.group(23, 0), 0);
    }

    /** group: "what it was", also if that is the same. */
    private static void groupBecomesWhatItWas() {
        SecretLots x = new SecretLots();
        Check.due("to 3", x.group(5, 3), 0);
        Check.due("to 3 again", x.group(5, 3), 3);
        Check.due("to 0", x.group(5, 0), 3);
        Check.due("another's", x.group(6, 0), 0);
    }

    /** "ANSWERS, 120 at most". */
    private static void answersAre120AtMost() {
        SecretLots x = Check.with("t1/1", "t1/2");
        for (int i = 0; i < 119; i++) {
            x.answer(23, 0, 1);
        }
        Check.due("answers", x.count(1), 119);
        Check.due("the 120th", x.answer(23, 0, 0), 119);
        Check.due("the 121st", x.answer(23, 0, 0), FULL);
        Check.due("of another person", x.answer(0, 0, 0), FULL);
        Check.due("answers then", x.count(1), 120);
        Check.due("the last one's yes", x.about(119, 2), 0);
        Check.due("one more is not there", x.about(120, 2), BAD);
        Check.due("nor can it be taken back", x.takeBack(120), BAD);
        Check.due("the last can", x.takeBack(119), 1);
    }

    /** An answer that is taken back is still one of the 120. */
    private static void answersTakenBackStayAmongThe120() {
        SecretLots x = Check.with("t1/1");
        for (int i = 0; i < 120; i++) {
            x.answer(i % 24, 0, 1);
        }
        x.takeBack(0);
        x.takeBack(119);
        Check.due("the 121st", x.answer(0, 0, 1), FULL);
        Check.due("answers", x.count(1), 120);
        Check.due("known ones", x.count(2), 118);
        Check.due("the first is still there", x.about(0, 1), 0);
    }

    /** answer: "An ANSWER more: its number." */
    private static void anAnswersNumber() {
        SecretLots x = Check.with("t1/1", "y1/1", "n1/1", "o1/1");
        Check.due("the first", x.answer(0, 3, 0), 0);
        Check.due("the second", x.answer(0, 3, 0), 1);
        Check.due("the third, of the greatest", x.answer(23, 0, 1), 2);
        x.takeBack(2);
        Check.due("the next, behind one taken back", x.answer(23, 3, 1), 3);
        x.wipe(3);
        Check.due("by a text that is empty", x.answer(23, 3, 1), NOT);
        Check.due("the next, behind one refused", x.answer(23, 0, 1), 4);
    }

    /** read: "its items, PERSON, yes, one behind the other, as many as are whole". */
    private static void readAsManyAsAreWhole() {
        for (int items = 0; items <= 5; items++) {
            SecretLots x = Check.with("t1/1");
            x.sheet(0, 2, items);
            for (int i = 0; i < items; i++) {
                x.put(0, 2, i, i % 2 == 0 ? 20 + i / 2 : i / 2 % 2);
            }
            Check.due("read of " + items + " items", x.read(0, 0), items / 2);
            Check.due("answers", x.count(1), items / 2);
            for (int a = 0; a < items / 2; a++) {
                Check.due("person of " + a, x.about(a, 0), 20 + a);
                Check.due("yes of " + a, x.about(a, 2), a % 2);
            }
        }
    }

    /** read: "as long as each may be": up to the first that may not, whatever is behind it. */
    private static void readAsLongAsEachMayBe() {
        int[][] wrong = {{-1, 0}, {24, 0}, {0, -1}, {0, 2}, {Integer.MAX_VALUE, 0}, {0, Integer.MIN_VALUE}};
        for (int[] w : wrong) {
            for (int at = 0; at < 3; at++) {
                SecretLots x = Check.with("t1/1");
                Check.row(x, 0, 0, 0, 23, 1, 7, 1);
                x.put(0, 2, 2 * at, w[0]);
                x.put(0, 2, 2 * at + 1, w[1]);
                Check.due("read up to " + w[0] + ", " + w[1] + " at " + at, x.read(0, 0), at);
                Check.due("answers", x.count(1), at);
                Check.due("no finding", x.count(8), 0);
            }
        }
    }

    /** A sheet of any type can be read. */
    private static void readOfEachType() {
        for (int type = 0; type < 3; type++) {
            SecretLots x = Check.with("t1/1");
            x.sheet(3, type, 4);
            x.put(3, type, 0, 23);
            x.put(3, type, 1, 1);
            x.put(3, type, 2, -1);
            Check.due("read of type " + type, x.read(3, 0), 1);
            Check.due("its person", x.about(0, 0), 23);
            Check.due("its item stays", x.get(3, type, 0), 23);
        }
    }

    /** read is not refused as FULL: "how many" is what there was room for. */
    private static void readUpTo120() {
        for (int room = 0; room <= 3; room++) {
            SecretLots x = Check.with("t1/1");
            for (int i = 0; i < 120 - room; i++) {
                x.answer(0, 0, 0);
            }
            Check.row(x, 0, 1, 1, 2, 1, 3, 1);
            Check.due("read with room for " + room, x.read(0, 0), room);
            Check.due("answers", x.count(1), 120);
            Check.due("yes", x.count(3), room);
        }
    }

    /** 60 items are 30 answers. */
    private static void readOfAFullSheet() {
        SecretLots x = Check.with("t1/1");
        int[] row = new int[60];
        for (int i = 0; i < 30; i++) {
            row[2 * i] = i % 24;
            row[2 * i + 1] = 1;
        }
        Check.row(x, 1, row);
        for (int i = 1; i <= 4; i++) {
            Check.due("read " + i, x.read(1, 0), 30);
            Check.due("answers", x.count(1), 30 * i);
        }
        Check.due("read when it is full", x.read(1, 0), 0);
        Check.due("the last person", x.about(119, 0), 5);
    }

    /** takeBack: "An ANSWER is taken back: 1. .. NOT: it is already." */
    private static void takeBackOnce() {
        SecretLots x = Check.with("t1/1");
        x.answer(0, 0, 1);
        x.answer(0, 0, 1);
        Check.due("the second", x.takeBack(1), 1);
        Check.due("the second again", x.takeBack(1), NOT);
        x.pass(1);
        Check.due("the second on another day", x.takeBack(1), NOT);
        Check.due("the day it was taken back", x.about(1, 4), 0);
        x.asOf(0);
        Check.due("the first, whatever it is as of", x.takeBack(0), 1);
        Check.due("the first again", x.takeBack(0), NOT);
        Check.due("a third", x.takeBack(2), BAD);
    }

    /** "each can be taken back on the DAY", which AS OF does not move. */
    private static void takenBackOnTheDay() {
        SecretLots x = Check.with("t1/1");
        x.answer(0, 0, 1);
        x.answer(1, 0, 1);
        x.takeBack(0);
        Check.due("on day 0", x.about(0, 4), 0);
        Check.due("not yet", x.about(1, 4), NONE);
        x.pass(9);
        x.asOf(3);
        x.takeBack(1);
        Check.due("on day 9", x.about(1, 4), 9);
        x.answer(2, 0, 1);
        Check.due("told on day 9", x.about(2, 3), 9);
        Check.due("not known as of 3", x.about(2, 5), 0);
    }

    /** about: "0 PERSON, 1 DESIGN, 2 yes, 3 DAY told, 4 DAY taken back (NONE), 5 whether it is KNOWN." */
    private static void aboutEachAnswer() {
        SecretLots x = Check.with("t1/1", "t1/1", "t1/1", "t1/1");
        x.answer(0, 0, 0);
        x.pass(2);
        x.answer(23, 3, 1);
        x.pass(3);
        x.takeBack(0);
        int[][] due = {{0, 0, 0, 0, 5, 0}, {23, 3, 1, 2, NONE, 1}};
        for (int a = 0; a < 2; a++) {
            for (int what = 0; what < 6; what++) {
                Check.due("about(" + a + ", " + what + ")", x.about(a, what), due[a][what]);
            }
        }
        Check.due("what 6", x.about(0, 6), BAD);
        Check.due("what -1", x.about(0, -1), BAD);
        Check.due("answer 2", x.about(2, 0), BAD);
        Check.due("answer -1", x.about(-1, 0), BAD);
        x.wipe(3);
        Check.due("its design, though that is wiped", x.about(1, 1), 3);
    }

    /** "AS OF a DAY (told, not behind the DAY ..": what it was. */
    private static void asOfIsNotBehindTheDay() {
        SecretLots x = new SecretLots();
        Check.due("day 1 on day 0", x.asOf(1), BAD);
        Check.due("day 0 on day 0", x.asOf(0), NONE);
        x.pass(10);
        Check.due("day 11 on day 10", x.asOf(11), BAD);
        Check.due("as of 0 yet", x.count(7), 0);
        Check.due("day 10 on day 10", x.asOf(10), 0);
        Check.due("day 9 on day 10", x.asOf(9), 10);
        Check.due("day -2", x.asOf(-2), BAD);
        Check.due("as of 9 yet", x.count(7), 9);
    }

    /** "(.. NONE, at first: the DAY)". */
    private static void asOfNoneIsTheDay() {
        SecretLots x = Check.with("t1/1");
        Check.due("at first", x.count(7), NONE);
        x.answer(0, 0, 1);
        Check.due("known on the day", x.count(2), 1);
        x.pass(1);
        x.answer(1, 0, 1);
        Check.due("both known on the day", x.count(2), 2);
        Check.due("as of 0", x.asOf(0), NONE);
        Check.due("one known as of 0", x.count(2), 1);
        Check.due("NONE", x.asOf(NONE), 0);
        Check.due("told as NONE", x.count(7), NONE);
        Check.due("both known again", x.count(2), 2);
        Check.due("NONE again", x.asOf(NONE), NONE);
    }

    /** AS OF a day is that day, also when the DAY goes on; NONE goes with it. */
    private static void asOfStaysWhenTheDayGoesOn() {
        SecretLots x = Check.with("t1/1");
        x.pass(5);
        x.asOf(5);
        x.pass(1);
        x.answer(0, 0, 1);
        Check.due("as of 5 yet", x.count(7), 5);
        Check.due("what is told on 6 is not known", x.count(2), 0);
        Check.due("day 6 may be told now", x.asOf(6), 5);
        Check.due("then it is known", x.count(2), 1);
    }

    /** "an ANSWER is KNOWN, if it was told up to it": on the day before, the day, the day behind. */
    private static void knownIfToldUpToIt() {
        SecretLots x = Check.with("t1/1");
        x.pass(5);
        x.answer(0, 0, 1);
        x.pass(5);
        int[] known = {0, 0, 0, 0, 0, 1, 1, 1, 1, 1, 1};
        for (int day = 0; day <= 10; day++) {
            x.asOf(day);
            allKnown(x, "as of " + day, known[day]);
        }
    }

    /** ".. and not taken back up to it": on the day before, the day, the day behind. */
    private static void knownIfNotTakenBackUpToIt() {
        SecretLots x = Check.with("t1/1");
        x.pass(2);
        x.answer(0, 0, 1);
        x.pass(5);
        x.takeBack(0);
        Check.due("on the day itself", x.about(0, 5), 0);
        x.pass(3);
        int[] known = {0, 0, 1, 1, 1, 1, 1, 0, 0, 0, 0};
        for (int day = 0; day <= 10; day++) {
            x.asOf(day);
            allKnown(x, "as of " + day + ", taken back on 7", known[day]);
        }
        x.asOf(NONE);
        allKnown(x, "on day 10", 0);
    }

    /** An answer told and taken back on one day was never known. */
    private static void toldAndTakenBackOnOneDay() {
        SecretLots x = Check.with("t1/1");
        x.pass(3);
        x.answer(0, 0, 1);
        allKnown(x, "told", 1);
        x.takeBack(0);
        x.pass(3);
        for (int day = 0; day <= 6; day++) {
            x.asOf(day);
            allKnown(x, "as of " + day + ", told and taken back on 3", 0);
        }
    }

    /** One answer alone, yes of person 0 by t1/1, in all calls that look at what is known. */
    private static void allKnown(SecretLots x, String when, int known) {
        Check.due("known, " + when, x.about(0, 5), known);
        Check.due("count(1), " + when, x.count(1), 1);
        Check.due("count(2), " + when, x.count(2), known);
        Check.due("count(3), " + when, x.count(3), known);
        Check.due("poll N, " + when, x.poll(0, 0, 0), known);
        Check.due("poll Y, " + when, x.poll(0, 0, 1), known);
        Check.due("given, " + when, x.given(0, 0), known == 1 ? Check.refused(NOT) : 1);
    }

    /** A poll of nobody: N 0, Y 0. */
    private static void pollOfNobody() {
        SecretLots x = Check.with("t1/1");
        for (int g = 0; g < 4; g++) {
            for (int d = 0; d < 4; d++) {
                Check.due("N of " + g + " by " + d, x.poll(g, d, 0), 0);
                Check.due("Y of " + g + " by " + d, x.poll(g, d, 1), 0);
            }
        }
    }

    /** A poll of all 24 people. */
    private static void pollOfAll() {
        SecretLots x = Check.with("t1/1");
        for (int p = 0; p < 24; p++) {
            x.answer(p, 0, p == 0 || p == 23 ? 1 : 0);
            Check.due("N", x.poll(0, 0, 0), p + 1);
        }
        Check.due("Y", x.poll(0, 0, 1), 2);
        for (int p = 0; p < 24; p++) {
            x.answer(p, 0, 1);
        }
        Check.due("N, asked once more", x.poll(0, 0, 0), 24);
        Check.due("Y, asked once more", x.poll(0, 0, 1), 2);
    }

    /** "of each PERSON the first alone": the first of those that are known. */
    private static void pollOfEachPersonTheFirstAlone() {
        SecretLots x = Check.with("t1/1");
        x.answer(4, 0, 0);
        x.answer(4, 0, 1);
        x.pass(1);
        x.answer(4, 0, 1);
        Check.due("N", x.poll(0, 0, 0), 1);
        Check.due("Y by the first", x.poll(0, 0, 1), 0);
        x.takeBack(0);
        Check.due("Y by the second", x.poll(0, 0, 1), 1);
        x.asOf(0);
        Check.due("Y as of day 0", x.poll(0, 0, 1), 0);
        x.asOf(NONE);
        x.takeBack(1);
        x.takeBack(2);
        Check.due("N of none", x.poll(0, 0, 0), 0);
    }

    /** "of PEOPLE that are in it": in whatever group they were when they answered. */
    private static void pollOfPeopleThatAreInTheGroupNow() {
        SecretLots x = Check.with("t1/1");
        x.group(23, 3);
        x.answer(23, 0, 1);
        Check.due("N of 3", x.poll(3, 0, 0), 1);
        x.pass(1);
        x.group(23, 2);
        x.asOf(0);
        Check.due("N of 3, as of the day before", x.poll(3, 0, 0), 0);
        Check.due("N of 2, as of the day before", x.poll(2, 0, 0), 1);
        Check.due("N of 0", x.poll(0, 0, 0), 0);
    }

    /** "the KNOWN ANSWERS by it". */
    private static void pollByADesignAlone() {
        SecretLots x = Check.with("t1/1", "t1/1", "t1/1", "t1/1");
        x.answer(0, 3, 1);
        x.answer(0, 0, 0);
        x.answer(1, 3, 1);
        Check.due("N by 0", x.poll(0, 0, 0), 1);
        Check.due("Y by 0", x.poll(0, 0, 1), 0);
        Check.due("N by 1", x.poll(0, 1, 0), 0);
        Check.due("N by 3", x.poll(0, 3, 0), 2);
        Check.due("Y by 3", x.poll(0, 3, 1), 2);
    }

    /** poll is refused as BAD alone: a design's fault does not matter. */
    private static void pollByAFault() {
        SecretLots x = Check.with("t1/1");
        x.answer(0, 0, 1);
        x.type(0, ';');
        Check.due("N by a fault", x.poll(0, 0, 0), 1);
        x.wipe(0);
        Check.due("Y by an empty text", x.poll(0, 0, 1), 1);
        Check.due("what 2", x.poll(0, 0, 2), BAD);
    }
}
