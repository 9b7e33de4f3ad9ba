/** Promises 8 to 15. */
public final class PeopleTest {
    private static final int BAD = SecretLots.BAD, NOT = SecretLots.NOT, FULL = SecretLots.FULL, NONE = SecretLots.NONE;

    public static void main(String[] args) {
        pass();
        group();
        answer();
        read();
        readStops();
        takeBack();
        about();
        asOf();
        poll();
        pollOfFirstAnswers();
        Check.end("PeopleTest");
    }

    private static void pass() {
        SecretLots x = new SecretLots();
        Check.due("pass(0)", x.pass(0), BAD);
        Check.due("pass(-1)", x.pass(-1), BAD);
        Check.due("pass(101)", x.pass(101), BAD);
        Check.due("pass(most int)", x.pass(Integer.MAX_VALUE), BAD);
        Check.due("pass(100)", x.pass(100), 100);
        Check.due("pass(100) again", x.pass(100), 200);
        Check.due("pass(99)", x.pass(99), 299);
        Check.due("pass(100) to 399", x.pass(100), 399);
        Check.due("pass(1) above 399", x.pass(1), BAD);
        Check.due("the day", x.count(0), 399);
    }

    private static void group() {
        SecretLots x = Check.with("t1/1");
        Check.due("group of person -1", x.group(-1, 0), BAD);
        Check.due("group of person 24", x.group(24, 0), BAD);
        Check.due("group -1", x.group(0, -1), BAD);
        Check.due("group 4", x.group(0, 4), BAD);
        Check.due("group(23, 3)", x.group(23, 3), 0);
        Check.due("group(23, 1)", x.group(23, 1), 3);
        Check.due("group(23, 1) again", x.group(23, 1), 1);
        x.answer(23, 0, 1);
        Check.due("poll of its group", x.poll(1, 0, 0), 1);
        Check.due("poll of another", x.poll(0, 0, 0), 0);
    }

    private static void answer() {
        SecretLots x = Check.with("t1/1", "t1/2");
        Check.due("answer of person -1", x.answer(-1, 0, 1), BAD);
        Check.due("answer of person 24", x.answer(24, 0, 1), BAD);
        Check.due("answer by design -1", x.answer(0, -1, 1), BAD);
        Check.due("answer by design 4", x.answer(0, 4, 1), BAD);
        Check.due("answer 2", x.answer(0, 0, 2), BAD);
        Check.due("answer -1", x.answer(0, 0, -1), BAD);
        Check.due("BAD ahead of NOT", x.answer(24, 1, 1), BAD);
        Check.due("by a fault", x.answer(0, 1, 1), NOT);
        Check.due("answers yet", x.count(1), 0);
        for (int i = 0; i < 120; i++) {
            Check.due("answer " + i, x.answer(i % 24, 0, i % 2), i);
        }
        Check.due("NOT ahead of FULL", x.answer(0, 1, 1), NOT);
        Check.due("answer 120", x.answer(0, 0, 1), FULL);
        Check.due("answers", x.count(1), 120);
    }

    private static void read() {
        SecretLots x = Check.with("t1/1", "t1/2");
        Check.due("read of sheet -1", x.read(-1, 0), BAD);
        Check.due("read of sheet 4", x.read(4, 0), BAD);
        Check.due("read by design -1", x.read(0, -1), BAD);
        Check.due("read by design 4", x.read(0, 4), BAD);
        Check.due("no finding yet", x.count(8), 0);
        Check.due("NULL ahead of NOT", x.read(0, 1), -11);
        Check.due("NULL is found", x.count(8), 1);
        Check.row(x, 0, 3, 1, 23, 0, 7);
        Check.due("read by a fault", x.read(0, 1), NOT);
        x.pass(5);
        Check.due("read of two and a half", x.read(0, 0), 2);
        Check.due("answers", x.count(1), 2);
        int[] first = {3, 0, 1, 5, NONE, 1};
        int[] second = {23, 0, 0, 5, NONE, 1};
        for (int what = 0; what < 6; what++) {
            Check.due("first read, " + what, x.about(0, what), first[what]);
            Check.due("second read, " + what, x.about(1, what), second[what]);
        }
        x.sheet(1, 0, 0);
        Check.due("read of nothing", x.read(1, 0), 0);
    }

    private static void readStops() {
        SecretLots x = Check.with("t1/1");
        Check.row(x, 0, 3, 1, 4, 2, 5, 1);
        Check.due("read up to yes 2", x.read(0, 0), 1);
        Check.row(x, 0, -1, 1, 4, 1);
        Check.due("read up to person -1", x.read(0, 0), 0);
        Check.row(x, 0, 1, 1, 4, 1, 24, 0, 5, 0);
        Check.due("read up to person 24", x.read(0, 0), 2);
        for (int i = x.count(1); i < 118; i++) {
            x.answer(0, 0, 0);
        }
        Check.row(x, 0, 1, 1, 2, 1, 3, 1);
        Check.due("read until it is full", x.read(0, 0), 2);
        Check.due("read when it is full", x.read(0, 0), 0);
        Check.due("answers", x.count(1), 120);
    }

    private static void takeBack() {
        SecretLots x = Check.with("t1/1");
        Check.due("takeBack before any", x.takeBack(0), BAD);
        x.answer(0, 0, 1);
        Check.due("takeBack(-1)", x.takeBack(-1), BAD);
        Check.due("takeBack(1)", x.takeBack(1), BAD);
        x.pass(4);
        x.asOf(2);
        Check.due("takeBack(0)", x.takeBack(0), 1);
        Check.due("on the day", x.about(0, 4), 4);
        Check.due("takeBack(0), though known as of then", x.takeBack(0), NOT);
        Check.due("known as of 2", x.about(0, 5), 1);
        x.asOf(NONE);
        Check.due("known no more", x.about(0, 5), 0);
        Check.due("answers", x.count(1), 1);
        Check.due("known ones", x.count(2), 0);
    }

    private static void about() {
        SecretLots x = Check.with("", "", "t1/1");
        Check.due("about before any", x.about(0, 0), BAD);
        x.pass(9);
        x.answer(17, 2, 1);
        Check.due("about(-1, 0)", x.about(-1, 0), BAD);
        Check.due("about(1, 0)", x.about(1, 0), BAD);
        Check.due("about what -1", x.about(0, -1), BAD);
        Check.due("about what 6", x.about(0, 6), BAD);
        int[] due = {17, 2, 1, 9, NONE, 1};
        for (int what = 0; what < due.length; what++) {
            Check.due("about " + what, x.about(0, what), due[what]);
        }
        x.asOf(8);
        Check.due("known as of 8", x.about(0, 5), 0);
    }

    private static void asOf() {
        SecretLots x = Check.with("t1/1");
        x.pass(3);
        x.answer(0, 0, 1);
        x.pass(3);
        x.takeBack(0);
        x.answer(1, 0, 1);
        Check.due("asOf(-2)", x.asOf(-2), BAD);
        Check.due("asOf(7) behind the day", x.asOf(7), BAD);
        Check.due("as of yet", x.count(7), NONE);
        int[] known = {0, 0, 0, 1, 1, 1, 1};
        int before = NONE;
        for (int day = 0; day < known.length; day++) {
            Check.due("asOf(" + day + ")", x.asOf(day), before);
            Check.due("count(7)", x.count(7), day);
            Check.due("known as of " + day, x.count(2), known[day]);
            Check.due("yes as of " + day, x.count(3), known[day]);
            before = day;
        }
        Check.due("the second is known as of 6", x.about(1, 5), 1);
        x.pass(1);
        x.answer(2, 0, 0);
        Check.due("still as of 6", x.count(2), 1);
        Check.due("asOf(NONE)", x.asOf(NONE), 6);
        Check.due("as of the day", x.count(2), 2);
        x.pass(1);
        x.takeBack(2);
        Check.due("as of the day that goes on", x.count(2), 1);
    }

    private static void poll() {
        SecretLots x = Check.with("t1/1", "y1/1");
        Check.due("poll of group -1", x.poll(-1, 0, 0), BAD);
        Check.due("poll of group 4", x.poll(4, 0, 0), BAD);
        Check.due("poll by design -1", x.poll(0, -1, 0), BAD);
        Check.due("poll by design 4", x.poll(0, 4, 0), BAD);
        Check.due("poll what -1", x.poll(0, 0, -1), BAD);
        Check.due("poll what 2", x.poll(0, 0, 2), BAD);
        Check.due("poll of none", x.poll(0, 0, 0), 0);
        Check.answers(x, 0, "yynyyyyyyyyyyyyyyyyyyyyn");
        Check.due("N of all", x.poll(0, 0, 0), 24);
        Check.due("Y of all", x.poll(0, 0, 1), 22);
        Check.due("N by another", x.poll(0, 1, 0), 0);
        x.group(23, 3);
        Check.due("N less one", x.poll(0, 0, 0), 23);
        Check.due("N of the other group", x.poll(3, 0, 0), 1);
        Check.due("Y of the other group", x.poll(3, 0, 1), 0);
        x.wipe(0);
        Check.due("N by a fault", x.poll(0, 0, 0), 23);
    }

    private static void pollOfFirstAnswers() {
        SecretLots x = Check.with("t1/1");
        x.answer(5, 0, 1);
        x.pass(1);
        x.answer(5, 0, 0);
        Check.due("N of one person", x.poll(0, 0, 0), 1);
        Check.due("Y by the first", x.poll(0, 0, 1), 1);
        x.pass(1);
        x.takeBack(0);
        Check.due("N by the second", x.poll(0, 0, 0), 1);
        Check.due("Y by the second", x.poll(0, 0, 1), 0);
        x.asOf(1);
        Check.due("Y as of 1", x.poll(0, 0, 1), 1);
    }
}
