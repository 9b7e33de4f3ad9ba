/** The document's sentences on designs that name a boundary case: 'Terms' and promises 1 to 7. */
public final class DesignEdgesTest {
    private static final int BAD = SecretLots.BAD, NOT = SecretLots.NOT, FULL = SecretLots.FULL, NONE = SecretLots.NONE;
    private static final String TWELVE_PARTS = "t1/1;o0/1;y0/1;n0/1;u0/1;o0/1;y0/1;n0/1;u0/1;o0/1;y0/1;n0/1";

    public static void main(String[] args) {
        aNewObject();
        objectsShareNothing();
        theLastOf512Calls();
        textsOfUpTo60Bytes();
        aByteIs0To255();
        howManyBytesItHad();
        partsWithASemicolonBetweenThem();
        aLetter();
        aSlash();
        oneOrTwoFiguresEach();
        mIs0To20();
        nIs1To20();
        nIsNotBelowM();
        sharesAre1Together();
        dIs24AtMost();
        dIsTheLeastNumber();
        faultOfAnEmptyText();
        faultIsTheFirstPlace();
        faultAtTheEndOfTheText();
        otherIs0To24();
        otherIs12AtFirst();
        otherIsTheSameInAllDesigns();
        ifOneHasItByEachLetter();
        aLotOf24ForTheOtherQuestion();
        tellsIfTheseTwoAreUnlike();
        fractionsInLowestTerms();
        unitIsTheLeast();
        wideIfAbove24();
        unitWhetherItIsWideDoesNotMatter();
        Check.end("DesignEdgesTest");
    }

    /** "DAY 0, empty DESIGNS; all SHEETS are LOST." */
    private static void aNewObject() {
        SecretLots x = new SecretLots();
        int[] counts = {0, 0, 0, 0, 0, 12, 100, NONE, 0};
        for (int what = 0; what < counts.length; what++) {
            Check.due("new: count(" + what + ")", x.count(what), counts[what]);
        }
        for (int i = 0; i < 4; i++) {
            Check.due("new: fault(" + i + ")", x.fault(i), 0);
            Check.due("new: unit(" + i + ")", x.unit(i), NOT);
            Check.due("new: poll(" + i + ")", x.poll(i, i, 0), 0);
            Check.due("new: may by " + i, x.may(0, i), NOT);
            Check.due("new: wipe(" + i + ")", x.wipe(i), 0);
            Check.due("new: lose(" + i + ")", x.lose(i), -11);
        }
        for (int p = 0; p < 24; p++) {
            Check.due("new: given(" + p + ") above", x.given(p, 0), 1);
            Check.due("new: given(" + p + ") below", x.given(p, 1), 1);
            Check.due("new: group(" + p + ")", x.group(p, 3), 0);
        }
        Check.due("new: about(0)", x.about(0, 0), BAD);
        Check.due("new: takeBack(0)", x.takeBack(0), BAD);
    }

    /** Two objects at once: what one is told the other does not know. */
    private static void objectsShareNothing() {
        SecretLots x = States.mixed();
        SecretLots y = new SecretLots();
        SecretLots z = new SecretLots();
        States.full();
        Check.due("another object's digest", y.digest(), z.digest());
        Check.due("another object's sheet", y.lose(0), -11);
        Check.due("another object's other", y.count(5), 12);
        Check.due("its own finding", x.count(8), 5);
        Check.due("its own answers", x.count(1), 15);
    }

    /** "An object is used for at most 512 calls": the last of them is answered as any other. */
    private static void theLastOf512Calls() {
        SecretLots x = new SecretLots();
        for (int i = 0; i < 255; i++) {
            Check.due("type", x.type(0, 't'), 1);
            Check.due("wipe", x.wipe(0), 1);
        }
        Check.due("call 511", x.type(0, 't'), 1);
        Check.due("call 512", x.digest(), Check.with("t").digest());
    }

    /** "texts of up to 60 bytes"; type: "A byte comes behind a DESIGN: how many. FULL". */
    private static void textsOfUpTo60Bytes() {
        SecretLots x = new SecretLots();
        String sixty = TWELVE_PARTS.replace("t1/1", "t01/1");
        Check.due("the text's length", sixty.length(), 60);
        for (int i = 0; i < 60; i++) {
            Check.due("type, byte " + (i + 1), x.type(2, sixty.charAt(i)), i + 1);
        }
        Check.due("fault of 60 bytes", x.fault(2), NONE);
        Check.due("byte 61", x.type(2, ';'), FULL);
        Check.due("fault, as before", x.fault(2), NONE);
        Check.due("bytes", x.count(4), 60);
        Check.due("byte 1 of another", x.type(1, 't'), 1);
        Check.due("wipe of 60", x.wipe(2), 60);
        Check.due("type to what was full", x.type(2, 't'), 1);
        faultOf("59 bytes", TWELVE_PARTS, NONE);
        faultOf("60 bytes, the last being a ;", TWELVE_PARTS + ";", 60);
        faultOf("60 bytes, the last being no figure", TWELVE_PARTS + "x", 59);
    }

    /** "A byte (0 to 255)": all of them, of which most cannot begin a text. */
    private static void aByteIs0To255() {
        for (int b = 0; b <= 255; b++) {
            SecretLots x = new SecretLots();
            Check.due("type of byte " + b, x.type(0, b), 1);
            boolean isLetter = "toynu".indexOf((char) b) >= 0;
            Check.due("fault of byte " + b, x.fault(0), isLetter ? 1 : 0);
            Check.due("bytes", x.count(4), 1);
        }
        SecretLots x = new SecretLots();
        Check.due("type of byte 256", x.type(0, 256), BAD);
        // what 't' is in its lowest bits
        Check.due("type of byte 256 + 116", x.type(0, 372), BAD);
        Check.due("type of byte 116 - 256", x.type(0, -140), BAD);
        Check.due("no byte came", x.count(4), 0);
    }

    /** wipe: "A DESIGN is empty: how many bytes it had." */
    private static void howManyBytesItHad() {
        for (int bytes : new int[] {0, 1, 59, 60}) {
            SecretLots x = Check.with("t1/1", "y1/1", TWELVE_PARTS.substring(0, Math.min(bytes, 59)), "o1/1");
            if (bytes == 60) {
                x.type(2, ';');
            }
            Check.due("wipe of " + bytes, x.wipe(2), bytes);
            Check.due("wipe of what is empty", x.wipe(2), 0);
            Check.due("its fault", x.fault(2), 0);
            Check.due("bytes of the others", x.count(4), 12);
            Check.due("another's fault", x.fault(3), NONE);
        }
    }

    /** "parts with ; between them": none ahead, none behind, no two. */
    private static void partsWithASemicolonBetweenThem() {
        faultOf("one part", "t1/1", NONE);
        faultOf("two parts", "t1/2;y1/2", NONE);
        faultOf("a ; ahead", ";t1/1", 0);
        faultOf("a ; behind", "t1/1;", 5);
        faultOf("two ; between", "t1/2;;y1/2", 5);
        faultOf("no ; between", "t1/2y1/2", 4);
        faultOf("another sign between", "t1/2:y1/2", 4);
        faultOf("a blank behind the ;", "t1/2; y1/2", 5);
        faultOf("a ; alone", ";", 0);
    }

    /** "a letter": t, o, y, n, u and none of their neighbours. */
    private static void aLetter() {
        for (char c = 'a'; c <= 'z'; c++) {
            boolean isOne = "toynu".indexOf(c) >= 0;
            faultOf("the letter " + c, c + "1/1", isOne ? NONE : 0);
            faultOf("the letter " + c + " of a second part", "t1/1;" + c + "0/1", isOne ? NONE : 5);
        }
        for (char c : "TOYNU".toCharArray()) {
            faultOf("the letter " + c, c + "1/1", 0);
        }
        faultOf("no letter", "1/1", 0);
        faultOf("two letters", "tt1/1", 1);
        faultOf("a letter alone", "u", 1);
        faultOf("a sign whose lowest bits are those of t", (char) ('t' + 128) + "1/1", 0);
    }

    /** "m, /, n". */
    private static void aSlash() {
        faultOf("no /", "t1", 2);
        faultOf("another sign than /, next below", "t1.1", 2);
        faultOf("another sign than /, next above", "t1:1", 2);
        faultOf("two /", "t1//1", 3);
        faultOf("a / behind", "t1/1/1", 4);
        faultOf("a / and the end", "t1/", 3);
    }

    /** "1 or 2 figures each". */
    private static void oneOrTwoFiguresEach() {
        faultOf("no figure above", "t/1", 1);
        faultOf("one figure each", "t1/1", NONE);
        faultOf("two figures above", "t01/1", NONE);
        faultOf("two figures below", "t1/01", NONE);
        faultOf("two figures each", "t11/11", NONE);
        faultOf("three figures above", "t001/1", 3);
        faultOf("three figures below", "t1/001", 3);
        faultOf("three figures below, the first two being 10", "t1/100", 5);
        faultOf("no figure below", "t1/;", 3);
        faultOf("a sign next below the figures, above", "t/", 1);
        faultOf("a sign next above the figures, above", "t:", 1);
        faultOf("a sign next below the figures, below", "t1//", 3);
        faultOf("a sign next above the figures, below", "t1/:", 3);
        faultOf("a sign next above the figures, second above", "t1:/1", 2);
        faultOf("a sign next above the figures, second below", "t1/1:", 4);
        for (int i = 0; i <= 9; i++) {
            faultOf("the figure " + i, "t" + i + "/" + Math.max(i, 1), i == 0 ? 4 : NONE);
            faultOf("the second figure " + i, "t1" + i + "/1" + i, NONE);
        }
        faultOf("a sign ahead of the figures", "t+1/1", 1);
        faultOf("a sign ahead of the figures below", "t1/-1", 3);
    }

    /** "m 0 to 20", the place being that of its first figure. */
    private static void mIs0To20() {
        faultOf("m 0", "t0/1;y1/1", NONE);
        faultOf("m 00", "t00/20;y1/1", NONE);
        faultOf("m 20", "t20/20", NONE);
        faultOf("m 19", "t19/20;y01/20", NONE);
        faultOf("m 21", "t21/20", 1);
        faultOf("m 21, and nothing behind", "t21", 1);
        faultOf("m 21 of a second part", "y0/1;t21/21", 6);
        faultOf("m 99", "t99/99", 1);
        faultOf("m 30", "t30/20", 1);
    }

    /** "n 1 to 20", the place being that of its first figure. */
    private static void nIs1To20() {
        faultOf("n 0", "t0/0;y1/1", 3);
        faultOf("n 00", "t0/00;y1/1", 3);
        faultOf("n 1", "t1/1", NONE);
        faultOf("n 01", "t1/01", NONE);
        faultOf("n 20", "t10/20;y10/20", NONE);
        faultOf("n 19", "t19/19", NONE);
        faultOf("n 21", "t1/21;y20/20", 3);
        faultOf("n 21 behind two figures", "t20/21", 4);
        faultOf("n 99", "t1/99", 3);
        faultOf("n 21 of a second part", "t1/1;y0/21", 8);
    }

    /** "n .. not below m". */
    private static void nIsNotBelowM() {
        for (int m = 1; m <= 20; m++) {
            String place = "t" + m + "/";
            faultOf("n just m", place + m, NONE);
            faultOf("n just below m", place + (m - 1), place.length());
            if (m < 20) {
                faultOf("n just above m", place + (m + 1) + ";n1/" + (m + 1), NONE);
            }
        }
        faultOf("n below m in its first figure", "t2/1", 3);
        faultOf("n no more below m with its second", "t2/10;y08/10", NONE);
        faultOf("n below m of a second part", "t1/1;y3/2", 8);
    }

    /** "Shares of all parts are 1 together", else the fault is "the text's end". */
    private static void sharesAre1Together() {
        faultOf("1 of one part", "n20/20", NONE);
        faultOf("1 of twelve parts", TWELVE_PARTS, NONE);
        faultOf("one by 20 too little", "t19/20", 6);
        faultOf("one by 20 too much", "t20/20;y1/20", 12);
        faultOf("one by 24 too little", "t3/8;y1/3;n1/4", 14);
        faultOf("nothing at all", "t0/1", 4);
        faultOf("2 together", "t1/1;o1/1", 9);
        faultOf("3 together", "t1/1;t1/1;t1/1", 14);
        faultOf("a third thrice", "t1/3;o1/3;y1/3", NONE);
        faultOf("a third twice", "t1/3;o1/3", 9);
        faultOf("1 of unlike parts", "t1/2;o1/3;n1/6", NONE);
        faultOf("nearly 1 of unlike parts", "t1/19;y18/20", 12);
    }

    /** "D is the least number .., 24 at most"; 28 is the next that shares of 1 together can have. */
    private static void dIs24AtMost() {
        faultOf("D 20", "t1/4;y1/5;n11/20", NONE);
        faultOf("D 24", "t1/8;y1/3;n1/3;o1/8;u1/12", NONE);
        faultOf("D 28", "t1/4;o1/4;y1/14;n6/14", 21);
        faultOf("D 30", "t1/10;o1/6;y1/3;n2/5", 20);
        faultOf("D 36", "t1/9;y1/4;o2/9;n5/12", 20);
        faultOf("D 48", "t1/16;y1/3;n1/3;o3/16;u1/12", 27);
        faultOf("D 60", "t1/20;o1/3;y1/12;n8/15", 22);
    }

    /** "the least number such that all of them are whole in Dths": of the shares themselves, of each part. */
    private static void dIsTheLeastNumber() {
        faultOf("a half as 10/20 and as 7/14", "t10/20;y7/14", NONE);
        faultOf("nothing by 19 and by 17", "t1/1;y0/19;n0/17", NONE);
        faultOf("thirds as 6/18 and 4/12, quarters as 4/16", "t6/18;y4/12;n4/16;o1/12", NONE);
        faultOf("parts of one letter that would be whole together", "t1/4;t1/4;y1/14;n6/14", 21);
    }

    /** "The FAULT is .. (of an empty text 0)". */
    private static void faultOfAnEmptyText() {
        SecretLots x = new SecretLots();
        Check.due("fault of a new text", x.fault(0), 0);
        x.type(0, 't');
        Check.due("fault of one letter", x.fault(0), 1);
        x.wipe(0);
        Check.due("fault of a wiped text", x.fault(0), 0);
    }

    /** "the first byte with which it cannot go on .. or of the first figure of a number that may not be". */
    private static void faultIsTheFirstPlace() {
        faultOf("a number, then a byte", "t21x", 1);
        faultOf("a number, then a number", "t21/0", 1);
        faultOf("a byte, then a number", "x21/1", 0);
        faultOf("n, then a byte", "t2/1x", 3);
        faultOf("a byte, then a number of the next part", "t1/2,y21/2", 4);
        faultOf("a number, then a byte of the next part", "t1/2;y1/21;x", 8);
        faultOf("a number, and shares that are not 1", "t1/2;y1/2;n1/21", 13);
        faultOf("three figures that begin with no number", "t213/1", 1);
        String text = "t2/3;y1/6;n1/6";
        int[] due = {1, 2, 3, 4, 5, 6, 7, 8, 9, 10, 11, 12, 13, NONE};
        SecretLots x = new SecretLots();
        for (int i = 0; i < text.length(); i++) {
            x.type(0, text.charAt(i));
            Check.due("fault of " + text.substring(0, i + 1), x.fault(0), due[i]);
        }
    }

    /** "or, where the shares are not 1 together, or D is above 24, the text's end." */
    private static void faultAtTheEndOfTheText() {
        faultOf("shares that are not 1", "t1/2;y1/4", 9);
        faultOf("shares that are not 1, and D above 24", "t1/13;y1/7", 10);
        faultOf("a text that ends behind the letter", "t", 1);
        faultOf("a text that ends behind m", "t1", 2);
        faultOf("a text that ends behind the /", "t1/", 3);
        faultOf("a text that ends behind the ;", "t1/1;", 5);
    }

    /** "OTHER: of 24 people so many (0 to 24 ..)": what it was. */
    private static void otherIs0To24() {
        SecretLots x = Check.with("u1/1");
        int before = 12;
        for (int v = 0; v <= 24; v++) {
            Check.due("other(" + v + ")", x.other(v), before);
            long above = x.saysYes(0, 1, 0);
            long below = x.saysYes(0, 1, 1);
            Check.due("above, times 24, is so many times below, " + v, above * 24, below * v);
            before = v;
        }
        Check.due("other(25)", x.other(25), BAD);
        Check.due("other(-1)", x.other(-1), BAD);
        Check.due("count(5)", x.count(5), 24);
        Check.fraction("with 24", x.saysYes(0, 0, 0), x.saysYes(0, 0, 1), 1, 1);
        x.other(0);
        Check.fraction("with 0", x.saysYes(0, 0, 0), x.saysYes(0, 0, 1), 0, 1);
    }

    /** "12 at first". */
    private static void otherIs12AtFirst() {
        SecretLots x = Check.with("u1/1");
        Check.due("count(5)", x.count(5), 12);
        Check.fraction("at first", x.saysYes(0, 1, 0), x.saysYes(0, 1, 1), 1, 2);
        Check.due("what it was", x.other(12), 12);
    }

    /** "the same in all DESIGNS", those typed before and behind. */
    private static void otherIsTheSameInAllDesigns() {
        SecretLots x = Check.with("u1/1", "t1/2;u1/2", "", "u1/3;n2/3");
        x.other(8);
        Check.text(x, 2, "u1/4;y3/4");
        Check.fraction("0", x.saysYes(0, 0, 0), x.saysYes(0, 0, 1), 1, 3);
        Check.fraction("1", x.saysYes(1, 0, 0), x.saysYes(1, 0, 1), 1, 6);
        Check.fraction("2", x.saysYes(2, 0, 0), x.saysYes(2, 0, 1), 5, 6);
        Check.fraction("3", x.saysYes(3, 0, 0), x.saysYes(3, 0, 1), 1, 9);
        x.wipe(1);
        Check.text(x, 1, "u1/1");
        Check.fraction("1 typed anew", x.saysYes(1, 0, 0), x.saysYes(1, 0, 1), 1, 3);
    }

    /** "t the truth, o its opposite, y yes, n no, u the truth of THE OTHER QUESTION". */
    private static void ifOneHasItByEachLetter() {
        says("t1/1", 12, 1, 1, 0, 1);
        says("o1/1", 12, 0, 1, 1, 1);
        says("y1/1", 12, 1, 1, 1, 1);
        says("n1/1", 12, 0, 1, 0, 1);
        says("u1/1", 5, 5, 24, 5, 24);
        says("t1/8;o1/4;y1/8;n1/4;u1/4", 6, 5, 16, 7, 16);
        says("t1/4;n1/4;t1/4;n1/4", 12, 1, 2, 0, 1);
    }

    /** "as if each had a lot of 24 for that, too". */
    private static void aLotOf24ForTheOtherQuestion() {
        says("t3/8;y1/3;u1/8;n1/6", 1, 137, 192, 65, 192);
        says("t19/20;u1/20", 1, 457, 480, 1, 480);
        says("t19/20;u1/20", 23, 479, 480, 23, 480);
        says("t19/20;u1/20", 0, 19, 20, 0, 1);
        says("t19/20;u1/20", 24, 1, 1, 1, 20);
    }

    /** "It TELLS, if these two are unlike": by however little. */
    private static void tellsIfTheseTwoAreUnlike() {
        SecretLots x = Check.with("t1/2;o1/2", "t10/19;o9/19", "o10/19;t9/19", "u1/1");
        long[] share = {Long.MIN_VALUE + 3, -9, 10, Long.MIN_VALUE + 3};
        for (int d = 0; d < 4; d++) {
            x.answer(0, d, 0);
            Check.due("share above by " + d, x.share(0, d, 0), share[d]);
        }
    }

    /** "FRACTIONS are told in lowest terms, above and below (0 by 1)." */
    private static void fractionsInLowestTerms() {
        says("n20/20", 12, 0, 1, 0, 1);
        says("y20/20", 12, 1, 1, 1, 1);
        says("t10/20;y5/20;n5/20", 12, 3, 4, 1, 4);
        says("t0/20;u20/20", 0, 0, 1, 0, 1);
        says("u18/20;y2/20", 20, 17, 20, 17, 20);
    }

    /** "the least number U such that both are whole in Uths". */
    private static void unitIsTheLeast() {
        unitOf("y1/1", 12, 1);
        unitOf("n1/1", 12, 1);
        unitOf("t20/20", 12, 1);
        unitOf("t1/2;y1/2", 12, 2);
        unitOf("t2/3;y1/6;n1/6", 12, 6);
        unitOf("t1/4;o1/3;n5/12", 12, 12);
        unitOf("t1/4;o1/6;n7/12", 12, 12);
        unitOf("t10/20;y5/20;n5/20", 12, 4);
        unitOf("u1/1", 12, 2);
        unitOf("u1/1", 0, 1);
        unitOf("u1/1", 1, 24);
    }

    /** "it is WIDE, if that is above 24": a unit of 24 has its ways, one of 26 has not; there is none of 25. */
    private static void wideIfAbove24() {
        SecretLots x = Check.with("t3/8;y1/3;n1/6;n1/8", "t12/13;u1/13", "t1/2;u1/2", "t19/20;u1/20");
        int[] units = {24, 26, 4, 40};
        for (int d = 0; d < 4; d++) {
            x.answer(0, d, 1);
            Check.due("unit " + d, x.unit(d), units[d]);
            Check.due("likely " + d, x.likely(0, d), units[d] > 24 ? FULL : 1);
        }
        Check.due("ways by a unit of 24", x.ways(0, 0, 1), 17);
        Check.due("ways by a unit of 26", x.ways(0, 1, 1), Check.refused(FULL));
        x.other(24);
        Check.due("the unit by another OTHER", x.unit(1), 13);
        Check.due("ways by it", x.ways(0, 1, 0), 1);
        x.other(1);
        Check.due("the unit by one more", x.unit(2), 48);
        Check.due("ways by that", x.ways(0, 2, 0), Check.refused(FULL));
    }

    /** unit: "whether it is WIDE does not matter". */
    private static void unitWhetherItIsWideDoesNotMatter() {
        unitOf("t12/13;u1/13", 12, 26);
        unitOf("t19/20;u1/20", 1, 480);
        unitOf("t3/8;u1/3;n1/6;u1/8", 1, 576);
        unitOf("t1/19;y7/19;u11/19", 1, 456);
        unitOf("t18/19;u1/19", 23, 456);
    }

    private static void faultOf(String what, String text, int want) {
        SecretLots x = Check.with("", "", text);
        Check.due("fault of " + what + ", " + text, x.fault(2), want);
        Check.due("unit of " + text + " is refused", x.unit(2) == NOT ? 1 : 0, want == NONE ? 0 : 1);
    }

    private static void says(String text, int other, long hasAbove, long hasBelow, long notAbove, long notBelow) {
        SecretLots x = Check.with("", text);
        x.other(other);
        Check.fraction("one who has it, " + text, x.saysYes(1, 1, 0), x.saysYes(1, 1, 1), hasAbove, hasBelow);
        Check.fraction("one who has not, " + text, x.saysYes(1, 0, 0), x.saysYes(1, 0, 1), notAbove, notBelow);
    }

    private static void unitOf(String text, int other, int want) {
        SecretLots x = Check.with("", "", "", text);
        x.other(other);
        Check.due("unit of " + text + " with " + other, x.unit(3), want);
    }
}
