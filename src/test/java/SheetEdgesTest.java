import java.math.BigInteger;
import java.util.ArrayList;
import java.util.List;

/** The document's sentences on sheets, counts and the digest that name a boundary case: promises 31 to 38. */
public final class SheetEdgesTest {
    private static final int BAD = SecretLots.BAD, NOT = SecretLots.NOT, NONE = SecretLots.NONE;
    private static final int LEAST = Integer.MIN_VALUE, MOST = Integer.MAX_VALUE;

    public static void main(String[] args) {
        sheetsAreLostAtFirst();
        sheetOf0To60Items();
        sheetBelow0IsSize();
        sheetIsANewRow();
        sheetsAreFour();
        loseTellsHowManyItems();
        itemsAre0AtFirst();
        putTheLowestBits();
        putToTheFirstAndTheLast();
        putBehindTheLast();
        putAsAnotherType();
        getOfTheLeastIntIsNoFinding();
        getTellsByCount8();
        copyOfNothing();
        copyOfAll();
        copyUpToTheLast();
        copyWithinOneSheetAsTheyWere();
        copyBetweenAllSheets();
        copyOfWhatWrapsAround();
        copyOfEachType();
        writeAsManyAsItems();
        writeAsManyAsPeople();
        writeToEachType();
        writeOneAndNought();
        findingsAreNumbered();
        latestFindingStays();
        countsAtTheirEnds();
        countOfBytesOfAllDesigns();
        countFrom0To8();
        digestOfANewObject();
        digestOfRefusalsAsTheyAreTold();
        digestWrapsAround();
        digestIsOfEachOfThem();
        digestIsWithoutCount8AndSheets();
        Check.end("SheetEdgesTest");
    }

    /** "SHEETS 0 .. 3 are LOST (at first)". */
    private static void sheetsAreLostAtFirst() {
        for (int s = 0; s < 4; s++) {
            SecretLots x = Check.with("t1/1");
            Check.due("lose", x.lose(s), -11);
            Check.due("put", x.put(s, 0, 0, 1), -11);
            Check.due("get", x.get(s, 0, 0), LEAST);
            Check.due("copy", x.copy(s, 0, s, 0, 0), -11);
            Check.due("read", x.read(s, 0), -11);
            Check.due("write", x.write(0, s), -11);
            Check.due("parted", x.parted(s, 0, 0, 0, 0), Check.LEAST + 11);
            Check.due("the finding", x.count(8), 1);
        }
    }

    /** "of 0 to 60 items"; sheet: "n .. BAD: .. above 60". */
    private static void sheetOf0To60Items() {
        for (int type = 0; type < 3; type++) {
            SecretLots x = new SecretLots();
            Check.due("of 0", x.sheet(0, type, 0), 0);
            Check.due("item 0 of 0", x.put(0, type, 0, 1), -12);
            Check.due("of 1", x.sheet(1, type, 1), 1);
            Check.due("item 0 of 1", x.put(1, type, 0, 1), 1);
            Check.due("item 1 of 1", x.put(1, type, 1, 1), -12);
            Check.due("of 60", x.sheet(2, type, 60), 60);
            Check.due("item 59 of 60", x.put(2, type, 59, 1), 1);
            Check.due("item 60 of 60", x.put(2, type, 60, 1), -12);
            Check.due("of 61", x.sheet(3, type, 61), BAD);
            Check.due("it is still lost", x.lose(3), -11);
            Check.due("of 61, a row that is there", x.sheet(2, type, 61), BAD);
            Check.due("it stays", x.get(2, type, 59), 1);
            Check.due("lose of 60", x.lose(2), 60);
        }
    }

    /** "5 SIZE: below 0." */
    private static void sheetBelow0IsSize() {
        for (int n : new int[] {-1, -60, LEAST}) {
            SecretLots x = new SecretLots();
            x.sheet(0, 1, 2);
            x.put(0, 1, 1, 7);
            Check.due("of " + n, x.sheet(0, 2, n), -15);
            Check.due("the finding", x.count(8), 5);
            Check.due("the row stays", x.get(0, 1, 1), 7);
            Check.due("a lost one stays lost, too", x.sheet(1, 2, n), -15);
            Check.due("lose", x.lose(1), -11);
        }
    }

    /** "A SHEET is a new row": of another type or length, and of nothing that was in it. */
    private static void sheetIsANewRow() {
        SecretLots x = new SecretLots();
        x.sheet(0, 2, 60);
        x.put(0, 2, 0, 5);
        x.put(0, 2, 59, 6);
        Check.due("the same again", x.sheet(0, 2, 60), 60);
        Check.due("its first item", x.get(0, 2, 0), 0);
        Check.due("its last item", x.get(0, 2, 59), 0);
        x.put(0, 2, 3, 8);
        Check.due("of another type and length", x.sheet(0, 0, 4), 4);
        Check.due("its item 3", x.get(0, 0, 3), 0);
        Check.due("as ints", x.get(0, 2, 3), LEAST);
        Check.due("the finding is CAST", x.count(8), 3);
        x.put(0, 0, 3, 9);
        x.lose(0);
        x.sheet(0, 0, 4);
        Check.due("its item 3, when it was lost", x.get(0, 0, 3), 0);
    }

    /** Each of the four is one of its own. */
    private static void sheetsAreFour() {
        SecretLots x = new SecretLots();
        for (int s = 0; s < 4; s++) {
            x.sheet(s, 2, s + 1);
            x.put(s, 2, s, 10 + s);
        }
        for (int s = 0; s < 4; s++) {
            Check.due("item " + s, x.get(s, 2, s), 10 + s);
            Check.due("lose(" + s + ")", x.lose(s), s + 1);
            Check.due("lose(" + s + ") again", x.lose(s), -11);
        }
        Check.due("lose(4)", x.lose(4), BAD);
        Check.due("lose(-1)", x.lose(-1), BAD);
    }

    /** lose: "It is LOST: how many items it had." */
    private static void loseTellsHowManyItems() {
        for (int n : new int[] {0, 1, 59, 60}) {
            SecretLots x = new SecretLots();
            x.sheet(1, 1, n);
            Check.due("lose of " + n, x.lose(1), n);
            Check.due("lose of a lost one", x.lose(1), -11);
        }
    }

    /** "(0 at first)". */
    private static void itemsAre0AtFirst() {
        for (int type = 0; type < 3; type++) {
            SecretLots x = new SecretLots();
            x.sheet(3, type, 60);
            for (int i = 0; i < 60; i++) {
                Check.due("item " + i, x.get(3, type, i), 0);
            }
            Check.due("no finding", x.count(8), 0);
        }
    }

    /** put: "becomes v (the lowest bits that it has)". */
    private static void putTheLowestBits() {
        int[][] due = {
            {0, 0, 0}, {1, 1, 1}, {-1, -1, -1}, {127, 127, 127}, {128, -128, 128}, {129, -127, 129}, {-128, -128, -128},
            {-129, 127, -129}, {255, -1, 255}, {256, 0, 256}, {257, 1, 257}, {-255, 1, -255}, {-256, 0, -256},
            {32767, -1, 32767}, {32768, 0, -32768}, {32769, 1, -32767}, {-32768, 0, -32768}, {-32769, -1, 32767},
            {65535, -1, -1}, {65536, 0, 0}, {65537, 1, 1}, {-65536, 0, 0}, {MOST, -1, -1}, {LEAST, 0, 0}, {LEAST + 1, 1, 1},
            {MOST - 127, -128, -128}, {0x12345678, 0x78, 0x5678}, {0x12348080, -128, -32640}};
        SecretLots x = new SecretLots();
        for (int type = 0; type < 3; type++) {
            x.sheet(type, type, 3);
        }
        for (int[] d : due) {
            for (int type = 0; type < 3; type++) {
                Check.due("put of " + d[0], x.put(type, type, 1, d[0]), 1);
                Check.due("type " + type + " of " + d[0], x.get(type, type, 1), type == 2 ? d[0] : d[1 + type]);
            }
        }
        for (int type = 0; type < 3; type++) {
            Check.due("the item ahead", x.get(type, type, 0), 0);
            Check.due("the item behind", x.get(type, type, 2), 0);
        }
    }

    /** "Item i": 0 and the last. */
    private static void putToTheFirstAndTheLast() {
        for (int n : new int[] {1, 2, 60}) {
            SecretLots x = new SecretLots();
            x.sheet(0, 1, n);
            Check.due("put to the last of " + n, x.put(0, 1, n - 1, 9), 1);
            Check.due("put to the first of " + n, x.put(0, 1, 0, 8), 1);
            Check.due("the last", x.get(0, 1, n - 1), n == 1 ? 8 : 9);
            Check.due("the first", x.get(0, 1, 0), 8);
        }
    }

    /** "2 INDEX: there is no such item". */
    private static void putBehindTheLast() {
        for (int n : new int[] {0, 1, 59, 60}) {
            SecretLots x = new SecretLots();
            x.sheet(0, 2, n);
            for (int i : new int[] {-1, n, n + 1, LEAST, MOST}) {
                Check.due("put to " + i + " of " + n, x.put(0, 2, i, 9), -12);
                Check.due("the finding", x.count(8), 2);
                Check.due("get of " + i + " of " + n, x.get(0, 2, i), LEAST);
            }
        }
    }

    /** "3 CAST: it has another TYPE": each as each other. */
    private static void putAsAnotherType() {
        for (int is = 0; is < 3; is++) {
            for (int as = 0; as < 3; as++) {
                SecretLots x = new SecretLots();
                x.sheet(0, is, 1);
                x.put(0, is, 0, 4);
                Check.due("put of " + is + " as " + as, x.put(0, as, 0, 5), is == as ? 1 : -13);
                Check.due("get of " + is + " as " + as, x.get(0, as, 0), is == as ? 5 : LEAST);
                Check.due("the finding", x.count(8), is == as ? 0 : 3);
                Check.due("what it is", x.get(0, is, 0), is == as ? 5 : 4);
            }
        }
    }

    /** An item can be the least int itself; "(count() 8 tells)". */
    private static void getOfTheLeastIntIsNoFinding() {
        SecretLots x = new SecretLots();
        x.sheet(0, 2, 1);
        x.put(0, 2, 0, LEAST);
        Check.due("get", x.get(0, 2, 0), LEAST);
        Check.due("no finding", x.count(8), 0);
    }

    /** "BAD: the least int; so are NULL, CAST, INDEX (count() 8 tells)." */
    private static void getTellsByCount8() {
        SecretLots x = new SecretLots();
        x.sheet(0, 2, 1);
        int[][] calls = {{-1, 2, 0, 0}, {0, 3, 0, 0}, {1, 2, 0, 1}, {4, 2, 0, 1}, {0, 2, 1, 2}, {0, -1, 0, 2}, {0, 1, 0, 3}, {0, 2, -1, 2}};
        for (int[] c : calls) {
            Check.due("get(" + c[0] + ", " + c[1] + ", " + c[2] + ")", x.get(c[0], c[1], c[2]), LEAST);
            Check.due("count(8)", x.count(8), c[3]);
        }
    }

    /** copy of 0 items, up to the end of both; not behind it. */
    private static void copyOfNothing() {
        SecretLots x = new SecretLots();
        Check.row(x, 0, 1, 2, 3);
        Check.row(x, 1, 4, 5);
        x.sheet(2, 2, 0);
        Check.due("at the beginning", x.copy(0, 0, 1, 0, 0), 1);
        Check.due("at the end", x.copy(0, 3, 1, 2, 0), 1);
        Check.due("from behind the end", x.copy(0, 4, 1, 0, 0), -12);
        Check.due("to behind the end", x.copy(0, 0, 1, 3, 0), -12);
        Check.due("from -1", x.copy(0, -1, 1, 0, 0), -12);
        Check.due("to -1", x.copy(0, 0, 1, -1, 0), -12);
        Check.due("of no items to none", x.copy(2, 0, 2, 0, 0), 1);
        Check.due("of no items to some", x.copy(2, 0, 0, 3, 0), 1);
        Check.due("of one of no items", x.copy(2, 0, 0, 0, 1), -12);
        Check.due("of one to no items", x.copy(0, 0, 2, 0, 1), -12);
        rowIs(x, 0, 1, 2, 3);
        rowIs(x, 1, 4, 5);
    }

    /** All 60 items at once. */
    private static void copyOfAll() {
        SecretLots x = new SecretLots();
        x.sheet(0, 2, 60);
        x.sheet(3, 2, 60);
        for (int i = 0; i < 60; i++) {
            x.put(0, 2, i, 100 + i);
        }
        Check.due("copy of 61", x.copy(0, 0, 3, 0, 61), -12);
        Check.due("nothing came", x.get(3, 2, 0), 0);
        Check.due("copy of 60", x.copy(0, 0, 3, 0, 60), 1);
        for (int i = 0; i < 60; i++) {
            Check.due("item " + i, x.get(3, 2, i), 100 + i);
        }
        Check.due("copy of 60 from 1", x.copy(0, 1, 3, 0, 60), -12);
        Check.due("copy of 60 to 1", x.copy(0, 0, 3, 1, 60), -12);
        Check.due("copy of all to itself", x.copy(0, 0, 0, 0, 60), 1);
        Check.due("its last", x.get(0, 2, 59), 159);
    }

    /** "not so many": from each side the last that may be and the next. */
    private static void copyUpToTheLast() {
        SecretLots x = new SecretLots();
        Check.row(x, 0, 1, 2, 3, 4);
        Check.row(x, 1, 9, 9, 9);
        Check.due("the last two to the last two", x.copy(0, 2, 1, 1, 2), 1);
        rowIs(x, 1, 9, 3, 4);
        Check.due("one too many of the first", x.copy(0, 3, 1, 0, 2), -12);
        Check.due("one too many for the second", x.copy(0, 0, 1, 2, 2), -12);
        Check.due("four to three", x.copy(0, 0, 1, 0, 4), -12);
        rowIs(x, 1, 9, 3, 4);
        Check.due("three to three", x.copy(0, 0, 1, 0, 3), 1);
        rowIs(x, 1, 1, 2, 3);
        rowIs(x, 0, 1, 2, 3, 4);
    }

    /** "to SHEET t (perhaps s, as they were)": the parts lie over one another. */
    private static void copyWithinOneSheetAsTheyWere() {
        int[][] due = {{0, 1, 4, 1, 1, 2, 3, 4}, {1, 0, 4, 2, 3, 4, 5, 5}, {0, 2, 3, 1, 2, 1, 2, 3}, {2, 0, 3, 3, 4, 5, 4, 5},
            {0, 3, 2, 1, 2, 3, 1, 2}, {3, 0, 2, 4, 5, 3, 4, 5}, {2, 2, 3, 1, 2, 3, 4, 5}, {0, 4, 1, 1, 2, 3, 4, 1}};
        for (int type = 0; type < 3; type++) {
            for (int[] d : due) {
                SecretLots x = new SecretLots();
                x.sheet(2, type, 5);
                for (int i = 0; i < 5; i++) {
                    x.put(2, type, i, i + 1);
                }
                Check.due("copy from " + d[0] + " to " + d[1] + " of " + d[2], x.copy(2, d[0], 2, d[1], d[2]), 1);
                for (int i = 0; i < 5; i++) {
                    Check.due("item " + i, x.get(2, type, i), d[3 + i]);
                }
            }
        }
    }

    /** From each sheet to each. */
    private static void copyBetweenAllSheets() {
        for (int s = 0; s < 4; s++) {
            for (int t = 0; t < 4; t++) {
                SecretLots x = new SecretLots();
                for (int i = 0; i < 4; i++) {
                    Check.row(x, i, 10 * i, 10 * i + 1);
                }
                Check.due("copy from " + s + " to " + t, x.copy(s, 0, t, 1, 1), 1);
                for (int i = 0; i < 4; i++) {
                    Check.due("first of " + i, x.get(i, 2, 0), 10 * i);
                    Check.due("second of " + i, x.get(i, 2, 1), i == t ? 10 * s : 10 * i + 1);
                }
            }
        }
    }

    /** Places and numbers whose sum is beyond an int. */
    private static void copyOfWhatWrapsAround() {
        int[][] wrong = {{MOST, 0, 1}, {0, MOST, 1}, {0, 0, MOST}, {1, 0, MOST}, {0, 1, MOST}, {MOST, MOST, MOST}, {LEAST, 0, 1},
            {0, LEAST, 1}, {0, 0, LEAST}, {LEAST, 0, LEAST}, {MOST, 0, 2}, {0, MOST, 2}, {1, 1, LEAST}, {2, 2, -1}};
        for (int[] w : wrong) {
            SecretLots x = new SecretLots();
            Check.row(x, 0, 1, 2, 3);
            Check.row(x, 1, 4, 5, 6);
            Check.due("copy from " + w[0] + " to " + w[1] + " of " + w[2], x.copy(0, w[0], 1, w[1], w[2]), -12);
            Check.due("the finding", x.count(8), 2);
            rowIs(x, 0, 1, 2, 3);
            rowIs(x, 1, 4, 5, 6);
        }
    }

    /** "4 STORE: unlike TYPES": each to each other. */
    private static void copyOfEachType() {
        for (int from = 0; from < 3; from++) {
            for (int to = 0; to < 3; to++) {
                SecretLots x = new SecretLots();
                x.sheet(0, from, 1);
                x.sheet(1, to, 1);
                x.put(0, from, 0, 44);
                Check.due("copy of " + from + " to " + to, x.copy(0, 0, 1, 0, 1), from == to ? 1 : -14);
                Check.due("the finding", x.count(8), from == to ? 0 : 4);
                Check.due("the item", x.get(1, to, 0), from == to ? 44 : 0);
                Check.due("copy of nothing", x.copy(0, 0, 1, 0, 0), from == to ? 1 : -14);
            }
        }
    }

    private static void rowIs(SecretLots x, int s, int... items) {
        for (int i = 0; i < items.length; i++) {
            Check.due("sheet " + s + " item " + i, x.get(s, 2, i), items[i]);
        }
    }

    /** write: "as many as there are items". */
    private static void writeAsManyAsItems() {
        for (int n : new int[] {0, 1, 23}) {
            SecretLots x = Check.with(States.WARNER);
            x.sheet(0, 2, n);
            Check.due("write to " + n, x.write(0, 0), n);
            for (int i = 0; i < n; i++) {
                Check.due("item " + i, x.get(0, 2, i), 1);
            }
        }
    }

    /** ".. and PEOPLE": what is behind the 24th item stays. */
    private static void writeAsManyAsPeople() {
        for (int n : new int[] {24, 25, 60}) {
            SecretLots x = Check.with(States.WARNER);
            x.sheet(0, 2, n);
            x.put(0, 2, n - 1, 7);
            x.answer(23, 0, 1);
            x.answer(23, 0, 1);
            Check.due("write to " + n, x.write(0, 0), 24);
            Check.due("of person 22", x.get(0, 2, 22), 1);
            Check.due("of person 23", x.get(0, 2, 23), 0);
            Check.due("the last", x.get(0, 2, n - 1), n == 24 ? 0 : 7);
        }
    }

    /** A sheet of any type can be written to. */
    private static void writeToEachType() {
        for (int type = 0; type < 3; type++) {
            SecretLots x = Check.with("", States.WARNER);
            x.sheet(3, type, 2);
            x.put(3, type, 0, -1);
            x.put(3, type, 1, -1);
            x.answer(0, 1, 1);
            x.answer(0, 1, 0);
            Check.due("write to type " + type, x.write(1, 3), 2);
            Check.due("of person 0", x.get(3, type, 0), 0);
            Check.due("of person 1", x.get(3, type, 1), 1);
        }
    }

    /** "(1, 0)": as may() tells of each person. */
    private static void writeOneAndNought() {
        SecretLots x = Check.with(States.WARNER, "t1/2;n1/2", "t1/2;y1/4;n1/4", "y1/1");
        x.limit(20);
        for (int p = 0; p < 24; p++) {
            x.answer(p, p % 4 == 3 ? 2 : p % 4, p % 2);
            if (p % 3 == 0) {
                x.answer(p, 0, 1);
            }
        }
        x.sheet(0, 0, 24);
        for (int d = 0; d < 4; d++) {
            Check.due("write by " + d, x.write(d, 0), 24);
            for (int p = 0; p < 24; p++) {
                Check.due("of " + p + " by " + d, x.get(0, 0, p), x.may(p, d));
            }
        }
        Check.due("write by a fault", x.type(3, ';') > 0 ? x.write(3, 0) : 0, NOT);
    }

    /** "FINDINGS (answers -10 less the number ..): 1 NULL .. 2 INDEX .. 3 CAST .. 4 STORE .. 5 SIZE". */
    private static void findingsAreNumbered() {
        SecretLots x = new SecretLots();
        x.sheet(0, 0, 1);
        x.sheet(1, 1, 1);
        Check.due("before any", x.count(8), 0);
        Check.due("NULL", x.lose(3), -11);
        Check.due("its number", x.count(8), 1);
        Check.due("INDEX", x.put(0, 0, 1, 1), -12);
        Check.due("its number", x.count(8), 2);
        Check.due("CAST", x.put(0, 1, 0, 1), -13);
        Check.due("its number", x.count(8), 3);
        Check.due("STORE", x.copy(0, 0, 1, 0, 1), -14);
        Check.due("its number", x.count(8), 4);
        Check.due("SIZE", x.sheet(2, 0, -1), -15);
        Check.due("its number", x.count(8), 5);
    }

    /** "8 the number of the latest FINDING (0 before any)": until the next one. */
    private static void latestFindingStays() {
        SecretLots x = Check.with("t1/1", "t1/2");
        x.sheet(0, 0, 1);
        x.copy(0, 5, 0, 0, 1);
        Check.due("INDEX", x.count(8), 2);
        x.put(0, 0, 0, 3);
        x.get(0, 0, 0);
        x.copy(0, 0, 0, 0, 1);
        x.sheet(1, 1, 4);
        x.lose(1);
        x.write(0, 0);
        x.read(0, 0);
        x.answer(0, 0, 1);
        x.sheet(4, 0, 1);
        x.sheet(0, 0, 61);
        x.read(0, 1);
        x.digest();
        x.pass(1);
        Check.due("INDEX yet", x.count(8), 2);
    }

    /** Each count at the greatest that it can be. */
    private static void countsAtTheirEnds() {
        SecretLots x = Check.with("t1/1");
        int[] row = new int[60];
        for (int i = 0; i < 30; i++) {
            row[2 * i + 1] = 1;
        }
        Check.row(x, 0, row);
        for (int i = 0; i < 4; i++) {
            x.read(0, 0);
            x.pass(i < 3 ? 100 : 99);
        }
        x.asOf(399);
        x.other(24);
        x.limit(1000);
        x.sheet(0, 0, -1);
        int[] due = {399, 120, 120, 120, 4, 24, 1000, 399, 5};
        for (int what = 0; what <= 8; what++) {
            Check.due("count(" + what + ")", x.count(what), due[what]);
        }
        x.asOf(0);
        x.other(0);
        x.limit(1);
        x.wipe(0);
        int[] least = {399, 120, 30, 30, 0, 0, 1, 0, 5};
        for (int what = 0; what <= 8; what++) {
            Check.due("count(" + what + ") as of 0", x.count(what), least[what]);
        }
    }

    /** "4 bytes of all DESIGNS": 240 at most. */
    private static void countOfBytesOfAllDesigns() {
        SecretLots x = new SecretLots();
        for (int i = 0; i < 240; i++) {
            Check.due("bytes", x.count(4), i);
            x.type(i % 4, 255);
        }
        Check.due("bytes of all that are full", x.count(4), 240);
        x.type(0, 1);
        Check.due("and no more", x.count(4), 240);
        x.wipe(3);
        Check.due("less one that is wiped", x.count(4), 180);
    }

    /** count: what from 0 to 8, else BAD. */
    private static void countFrom0To8() {
        SecretLots x = new SecretLots();
        Check.due("count(-1)", x.count(-1), BAD);
        Check.due("count(9)", x.count(9), BAD);
        Check.due("count(7), which is NONE", x.count(7), NONE);
        Check.due("count(8)", x.count(8), 0);
    }

    /** Nothing is there but what is at first; fault() is 0, the rest of the designs is refused. */
    private static void digestOfANewObject() {
        SecretLots x = new SecretLots();
        List<Long> each = new ArrayList<>(List.of(0L, 0L, 0L, 0L, 0L, 12L, 100L, -1L));
        long refused = -9223372036854775805L;
        for (int d = 0; d < 4; d++) {
            each.addAll(List.of(0L, refused, refused, refused, refused, -3L));
        }
        for (int i = 0; i < 16; i++) {
            each.addAll(List.of(0L, 0L, -3L));
        }
        for (int p = 0; p < 24; p++) {
            each.add(1L);
        }
        Check.due("digest", x.digest(), digestOf(each));
    }

    /** "(as it is told)": BAD cannot be, but NOT and FULL, as ints and as longs. */
    private static void digestOfRefusalsAsTheyAreTold() {
        SecretLots x = Check.with("t18/19;u1/19", "t1/2", "y1/1", "");
        x.other(1);
        for (int p = 0; p < 13; p++) {
            x.answer(p, 0, 1);
            x.answer(p, 0, 1);
            x.answer(p, 2, 1);
        }
        x.answer(14, 2, 0);
        x.asOf(0);
        long not = -9223372036854775805L;
        List<Long> each = new ArrayList<>(List.of(0L, 40L, 40L, 39L, 20L, 1L, 100L, 0L));
        each.addAll(List.of(-1L, 433L, 456L, 1L, 456L, 456L));
        each.addAll(List.of(4L, not, not, not, not, -3L));
        each.addAll(List.of(-1L, 1L, 1L, 1L, 1L, 1L));
        each.addAll(List.of(0L, not, not, not, not, -3L));
        for (int g = 0; g < 4; g++) {
            each.addAll(List.of(g == 0 ? 13L : 0L, g == 0 ? 13L : 0L, -4L));
            each.addAll(List.of(0L, 0L, -3L));
            each.addAll(List.of(g == 0 ? 14L : 0L, g == 0 ? 13L : 0L, g == 0 ? -4L : 0L));
            each.addAll(List.of(0L, 0L, -3L));
        }
        for (int p = 0; p < 24; p++) {
            each.add(p < 13 ? 433L * 433 : p == 14 ? not : 1L);
        }
        Check.due("digest", x.digest(), digestOf(each));
    }

    /** "h is 17; h becomes 31 h and each of .. as longs that wrap": by numbers without bounds. */
    private static void digestWrapsAround() {
        SecretLots x = States.mixed();
        Check.due("digest", x.digest(), digestOf(eachOf(x)));
        Check.due("digest again", x.digest(), digestOf(eachOf(x)));
        SecretLots y = States.full();
        Check.due("digest of 120 answers", y.digest(), digestOf(eachOf(y)));
    }

    private static List<Long> eachOf(SecretLots x) {
        List<Long> each = new ArrayList<>();
        for (int what = 0; what <= 7; what++) {
            each.add((long) x.count(what));
        }
        for (int d = 0; d < 4; d++) {
            each.addAll(List.of((long) x.fault(d), x.saysYes(d, 1, 0), x.saysYes(d, 1, 1), x.saysYes(d, 0, 0), x.saysYes(d, 0, 1),
                    (long) x.unit(d)));
        }
        for (int i = 0; i < 16; i++) {
            each.addAll(List.of((long) x.poll(i / 4, i % 4, 0), (long) x.poll(i / 4, i % 4, 1), (long) x.likely(i / 4, i % 4)));
        }
        for (int p = 0; p < 24; p++) {
            each.add(x.given(p, 0));
        }
        return each;
    }

    private static long digestOf(List<Long> each) {
        BigInteger h = BigInteger.valueOf(17);
        for (long e : each) {
            h = h.multiply(BigInteger.valueOf(31)).add(BigInteger.valueOf(e));
        }
        BigInteger wrapped = h.mod(BigInteger.ONE.shiftLeft(64));
        BigInteger signed = wrapped.testBit(63) ? wrapped.subtract(BigInteger.ONE.shiftLeft(64)) : wrapped;
        return signed.longValueExact();
    }

    /** It is another one when any of them is. */
    private static void digestIsOfEachOfThem() {
        Unchanged.Act[] acts = {
            x -> x.pass(1), x -> x.answer(20, 0, 0), x -> x.type(1, ';'), x -> x.wipe(3), x -> x.other(7),
            x -> x.limit(51), x -> x.asOf(5), x -> x.asOf(NONE), x -> x.group(2, 1), x -> x.group(2, 3), x -> x.read(2, 0)};
        for (int i = 0; i < acts.length; i++) {
            SecretLots x = States.mixed();
            SecretLots y = States.mixed();
            acts[i].on(y);
            Check.due("digest behind act " + i, y.digest(), digestOf(eachOf(y)));
            Check.due("digest is another behind act " + i, x.digest() == y.digest() ? 1 : 0, 0);
        }
    }

    /** "count() 0 to 7": neither the latest finding nor what is on the sheets, nor what is not known. */
    private static void digestIsWithoutCount8AndSheets() {
        SecretLots x = States.mixed();
        long before = x.digest();
        x.lose(3);
        Check.due("behind a finding", x.digest(), before);
        x.sheet(3, 2, 9);
        x.put(3, 2, 8, 7);
        x.lose(0);
        Check.due("behind other sheets", x.digest(), before);
        x.takeBack(0);
        Check.due("behind what is taken back after the day that it is as of", x.digest(), before);
    }
}
