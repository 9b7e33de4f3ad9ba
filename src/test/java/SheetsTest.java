/** Promises 31 to 38. */
public final class SheetsTest {
    private static final int BAD = SecretLots.BAD, NOT = SecretLots.NOT, NONE = SecretLots.NONE;
    private static final int LEAST = Integer.MIN_VALUE, MOST = Integer.MAX_VALUE;
    private static final String WARNER = "t2/3;y1/6;n1/6";

    public static void main(String[] args) {
        sheet();
        lose();
        put();
        get();
        copy();
        copyRefusals();
        write();
        count();
        digest();
        fullOfAnswers();
        Check.end("SheetsTest");
    }

    private static void sheet() {
        SecretLots x = new SecretLots();
        Check.due("sheet(-1)", x.sheet(-1, 0, 1), BAD);
        Check.due("sheet(4)", x.sheet(4, 0, 1), BAD);
        Check.due("sheet of type -1", x.sheet(0, -1, 1), BAD);
        Check.due("sheet of type 3", x.sheet(0, 3, -1), BAD);
        Check.due("sheet of 61", x.sheet(0, 0, 61), BAD);
        Check.due("no finding yet", x.count(8), 0);
        Check.due("sheet of -1", x.sheet(0, 0, -1), -15);
        Check.due("SIZE is found", x.count(8), 5);
        Check.due("it is still lost", x.lose(0), -11);
        Check.due("sheet of 0", x.sheet(0, 0, 0), 0);
        Check.due("sheet of 60", x.sheet(0, 2, 60), 60);
        Check.due("its last item", x.get(0, 2, 59), 0);
        x.put(0, 2, 59, 8);
        Check.due("sheet of -1 again", x.sheet(0, 2, LEAST), -15);
        Check.due("it stays", x.get(0, 2, 59), 8);
        x.sheet(0, 2, 10);
        x.sheet(0, 2, 60);
        Check.due("a new row is 0", x.get(0, 2, 59), 0);
    }

    private static void lose() {
        SecretLots x = new SecretLots();
        Check.due("lose(-1)", x.lose(-1), BAD);
        Check.due("lose(4)", x.lose(4), BAD);
        Check.due("lose of a lost one", x.lose(3), -11);
        Check.due("NULL is found", x.count(8), 1);
        x.sheet(3, 1, 7);
        Check.due("lose(3)", x.lose(3), 7);
        Check.due("it is lost", x.lose(3), -11);
        x.sheet(3, 1, 0);
        Check.due("lose of no items", x.lose(3), 0);
    }

    private static void put() {
        SecretLots x = new SecretLots();
        Check.due("put(-1)", x.put(-1, 0, 0, 0), BAD);
        Check.due("put(4)", x.put(4, 0, 0, 0), BAD);
        Check.due("put of type 3", x.put(0, 3, 0, 0), BAD);
        Check.due("put of type -1", x.put(0, -1, 0, 0), BAD);
        Check.due("put of a lost one", x.put(0, 0, 0, 0), -11);
        x.sheet(0, 0, 2);
        x.sheet(1, 1, 2);
        x.sheet(2, 2, 2);
        Check.due("CAST ahead of INDEX", x.put(0, 1, 9, 0), -13);
        Check.due("CAST is found", x.count(8), 3);
        Check.due("put to item -1", x.put(0, 0, -1, 0), -12);
        Check.due("put to item 2", x.put(0, 0, 2, 0), -12);
        Check.due("INDEX is found", x.count(8), 2);
        int[][] due = {{127, 127, 127, 127}, {128, -128, 128, 128}, {-129, 127, -129, -129}, {255, -1, 255, 255},
            {32768, 0, -32768, 32768}, {65535, -1, -1, 65535}, {LEAST, 0, 0, LEAST}, {MOST, -1, -1, MOST}};
        for (int[] d : due) {
            for (int type = 0; type < 3; type++) {
                Check.due("put of " + d[0], x.put(type, type, 1, d[0]), 1);
                Check.due("type " + type + " of " + d[0], x.get(type, type, 1), d[1 + type]);
                Check.due("the other item", x.get(type, type, 0), 0);
            }
        }
    }

    private static void get() {
        SecretLots x = new SecretLots();
        Check.due("get(-1)", x.get(-1, 0, 0), LEAST);
        Check.due("get(4)", x.get(4, 0, 0), LEAST);
        Check.due("get of type 3", x.get(0, 3, 0), LEAST);
        Check.due("no finding yet", x.count(8), 0);
        Check.due("get of a lost one", x.get(0, 0, 0), LEAST);
        Check.due("NULL is found", x.count(8), 1);
        x.sheet(0, 1, 3);
        Check.due("get of item 3", x.get(0, 1, 3), LEAST);
        Check.due("INDEX is found", x.count(8), 2);
        Check.due("get as another type", x.get(0, 2, 3), LEAST);
        Check.due("CAST is found", x.count(8), 3);
        Check.due("get of item -1", x.get(0, 1, -1), LEAST);
        Check.due("INDEX is found again", x.count(8), 2);
        Check.due("get(0, -1, 0)", x.get(0, -1, 0), LEAST);
        Check.due("BAD is no finding", x.count(8), 2);
        x.put(0, 1, 2, 77);
        Check.due("get of item 2", x.get(0, 1, 2), 77);
    }

    private static void copy() {
        SecretLots x = new SecretLots();
        Check.row(x, 0, 1, 2, 3, 4, 5);
        Check.row(x, 1, 0, 0, 0);
        Check.due("copy to another", x.copy(0, 3, 1, 1, 2), 1);
        rowIs(x, 1, 0, 4, 5);
        Check.due("copy to itself, ahead", x.copy(0, 1, 0, 0, 4), 1);
        rowIs(x, 0, 2, 3, 4, 5, 5);
        Check.due("copy to itself, behind", x.copy(0, 0, 0, 1, 4), 1);
        rowIs(x, 0, 2, 2, 3, 4, 5);
        Check.due("copy of all to itself", x.copy(0, 0, 0, 0, 5), 1);
        rowIs(x, 0, 2, 2, 3, 4, 5);
        Check.due("copy of nothing at the end", x.copy(0, 5, 1, 3, 0), 1);
        rowIs(x, 1, 0, 4, 5);
    }

    private static void rowIs(SecretLots x, int s, int... items) {
        for (int i = 0; i < items.length; i++) {
            Check.due("sheet " + s + " item " + i, x.get(s, 2, i), items[i]);
        }
    }

    private static void copyRefusals() {
        SecretLots x = new SecretLots();
        Check.due("copy of sheet -1", x.copy(-1, 0, 0, 0, 0), BAD);
        Check.due("copy to sheet 4", x.copy(0, 0, 4, 0, 0), BAD);
        Check.row(x, 0, 1, 2, 3);
        Check.due("copy to a lost one", x.copy(0, 9, 1, 0, 1), -11);
        Check.due("copy of a lost one", x.copy(1, 0, 0, 0, 1), -11);
        x.sheet(1, 0, 3);
        Check.due("STORE ahead of INDEX", x.copy(0, -1, 1, 0, 1), -14);
        Check.due("STORE is found", x.count(8), 4);
        Check.row(x, 1, 9, 9);
        int[][] index = {{-1, 0, 1}, {0, -1, 1}, {0, 0, -1}, {2, 0, 2}, {0, 1, 2}, {4, 0, 0}, {0, 3, 0},
            {MOST, 0, MOST}, {1, 1, MOST}, {LEAST, LEAST, LEAST}, {3, 0, 1}};
        for (int[] i : index) {
            Check.due("copy from " + i[0] + " to " + i[1] + " of " + i[2], x.copy(0, i[0], 1, i[1], i[2]), -12);
        }
        rowIs(x, 1, 9, 9);
        rowIs(x, 0, 1, 2, 3);
    }

    private static void write() {
        SecretLots x = Check.with(WARNER, "t1/2");
        Check.due("write of design 4", x.write(4, 0), BAD);
        Check.due("write of design -1", x.write(-1, 0), BAD);
        Check.due("write to sheet 4", x.write(0, 4), BAD);
        Check.due("write to sheet -1", x.write(0, -1), BAD);
        Check.due("NULL ahead of NOT", x.write(1, 0), -11);
        x.sheet(0, 0, 3);
        Check.due("write of a fault", x.write(1, 0), NOT);
        x.answer(1, 0, 1);
        x.answer(1, 0, 0);
        Check.due("write to three", x.write(0, 0), 3);
        int[] due = {1, 0, 1};
        for (int i = 0; i < 3; i++) {
            Check.due("written " + i, x.get(0, 0, i), due[i]);
        }
        Check.row(x, 1, new int[25]);
        x.put(1, 2, 24, 7);
        x.put(1, 2, 1, 7);
        Check.due("write to 25", x.write(0, 1), 24);
        Check.due("written 1", x.get(1, 2, 1), 0);
        Check.due("written 23", x.get(1, 2, 23), 1);
        Check.due("not written", x.get(1, 2, 24), 7);
        x.sheet(2, 1, 0);
        Check.due("write to nothing", x.write(0, 2), 0);
    }

    private static void count() {
        SecretLots x = Check.with(WARNER, "t1/2", "", "y1/1");
        x.other(5);
        x.limit(77);
        x.answer(0, 0, 1);
        x.answer(1, 0, 0);
        x.pass(12);
        x.answer(2, 3, 1);
        x.answer(3, 3, 0);
        x.takeBack(0);
        x.lose(0);
        x.sheet(0, 0, -1);
        int[] due = {12, 4, 3, 1, 22, 5, 77, NONE, 5};
        for (int what = 0; what < due.length; what++) {
            Check.due("count(" + what + ")", x.count(what), due[what]);
        }
        x.asOf(3);
        Check.due("answers as of 3", x.count(1), 4);
        Check.due("known as of 3", x.count(2), 2);
        Check.due("yes as of 3", x.count(3), 1);
        Check.due("as of", x.count(7), 3);
        Check.due("count(-1)", x.count(-1), BAD);
        Check.due("count(9)", x.count(9), BAD);
    }

    private static void digest() {
        SecretLots x = new SecretLots();
        Check.due("digest of a new one", x.digest(), digestBy(x));
        x = Check.with(WARNER, "t1/2;u1/2", "o3/4;t1/4", "t1/2");
        x.other(1);
        for (int p = 0; p < 24; p++) {
            x.group(p, p % 4);
            x.answer(p, p % 3, p % 2);
            x.answer(p, (p + 1) % 3, p / 5 % 2);
        }
        x.lose(0);
        Check.due("digest", x.digest(), digestBy(x));
        long before = x.digest();
        x.sheet(0, 0, -1);
        Check.due("digest is without count(8)", x.digest(), before);
        x.pass(3);
        x.takeBack(4);
        x.asOf(2);
        Check.due("digest as of 2", x.digest(), digestBy(x));
    }

    /** All 120 answers are there, so that whatever looks behind the last one is told. */
    private static void fullOfAnswers() {
        SecretLots x = Check.with(WARNER, "t1/2;y1/4;n1/4");
        for (int i = 0; i < 120; i++) {
            x.answer(i % 24, i % 2, 1);
        }
        x.takeBack(119);
        Check.due("answers", x.count(1), 120);
        Check.due("known ones", x.count(2), 119);
        Check.due("yes", x.count(3), 119);
        Check.due("poll", x.poll(0, 1, 0), 12);
        Check.due("given", x.given(23, 0), 9);
        Check.due("may", x.may(23, 1), 0);
        Check.due("digest", x.digest(), digestBy(x));
    }

    private static long digestBy(SecretLots x) {
        long h = 17;
        for (int what = 0; what < 8; what++) {
            h = 31 * h + x.count(what);
        }
        for (int d = 0; d < 4; d++) {
            long[] each = {x.fault(d), x.saysYes(d, 1, 0), x.saysYes(d, 1, 1), x.saysYes(d, 0, 0), x.saysYes(d, 0, 1), x.unit(d)};
            for (long e : each) {
                h = 31 * h + e;
            }
        }
        for (int g = 0; g < 4; g++) {
            for (int d = 0; d < 4; d++) {
                h = 31 * (31 * (31 * h + x.poll(g, d, 0)) + x.poll(g, d, 1)) + x.likely(g, d);
            }
        }
        for (int p = 0; p < 24; p++) {
            h = 31 * h + x.given(p, 0);
        }
        return h;
    }
}
