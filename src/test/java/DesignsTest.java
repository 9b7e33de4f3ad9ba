/** Promises 1 to 7. */
public final class DesignsTest {
    private static final int BAD = SecretLots.BAD, NOT = SecretLots.NOT, FULL = SecretLots.FULL, NONE = SecretLots.NONE;

    public static void main(String[] args) {
        newObject();
        type();
        wipe();
        fault();
        other();
        saysYes();
        unit();
        Check.end("DesignsTest");
    }

    private static void newObject() {
        SecretLots x = new SecretLots();
        int[] counts = {0, 0, 0, 0, 0, 12, 100, NONE, 0};
        for (int what = 0; what < counts.length; what++) {
            Check.due("new count(" + what + ")", x.count(what), counts[what]);
        }
        for (int i = 0; i < 4; i++) {
            Check.due("new fault(" + i + ")", x.fault(i), 0);
            Check.due("new wipe(" + i + ")", x.wipe(i), 0);
            Check.due("new lose(" + i + ")", x.lose(i), -11);
        }
        for (int p = 0; p < 24; p++) {
            Check.due("new group(" + p + ")", x.group(p, 0), 0);
        }
    }

    private static void type() {
        SecretLots x = new SecretLots();
        Check.due("type of design -1", x.type(-1, 0), BAD);
        Check.due("type of design 4", x.type(4, 0), BAD);
        Check.due("type of byte -1", x.type(0, -1), BAD);
        Check.due("type of byte 256", x.type(0, 256), BAD);
        for (int i = 1; i <= 60; i++) {
            Check.due("type " + i, x.type(3, i % 2 == 0 ? 0 : 255), i);
        }
        Check.due("type of byte 61", x.type(3, 't'), FULL);
        Check.due("type BAD ahead of FULL", x.type(3, 256), BAD);
        Check.due("bytes", x.count(4), 60);
        Check.due("type of another design", x.type(0, 't'), 1);
        Check.due("bytes of all", x.count(4), 61);
    }

    private static void wipe() {
        SecretLots x = Check.with("t1/1", "y1/1");
        Check.due("wipe(-1)", x.wipe(-1), BAD);
        Check.due("wipe(4)", x.wipe(4), BAD);
        Check.due("wipe(0)", x.wipe(0), 4);
        Check.due("wiped fault", x.fault(0), 0);
        Check.due("other design's fault", x.fault(1), NONE);
        Check.due("wipe(0) again", x.wipe(0), 0);
        Check.due("bytes behind wipe", x.count(4), 4);
        Check.text(x, 0, "n1/1");
        Check.due("typed anew", x.fault(0), NONE);
    }

    private static void fault() {
        SecretLots x = new SecretLots();
        Check.due("fault(-1)", x.fault(-1), BAD);
        Check.due("fault(4)", x.fault(4), BAD);
        faultOf("", 0);
        faultOf("T1/1", 0);
        faultOf(";t1/1", 0);
        faultOf("1/1", 0);
        faultOf("t", 1);
        faultOf("t/1", 1);
        faultOf("t-1/1", 1);
        faultOf("t1", 2);
        faultOf("t1;", 2);
        faultOf("t11", 3);
        faultOf("t100/100", 3);
        faultOf("t21", 1);
        faultOf("t21/21", 1);
        faultOf("t99/99", 1);
        faultOf("t20/20", NONE);
        faultOf("t1/", 3);
        faultOf("t1/;", 3);
        faultOf("t1/x", 3);
        faultOf("t0/0", 3);
        faultOf("t1/00", 3);
        faultOf("t2/1", 3);
        faultOf("t12/11", 4);
        faultOf("t1/21", 3);
        faultOf("t1/111", 5);
        faultOf("t1/1 ", 4);
        faultOf("t1/1,y0/1", 4);
        faultOf("t1/1;", 5);
        faultOf("t1/1;;", 5);
        faultOf("t1/1;z", 5);
        faultOf("t01/01", NONE);
        faultOf("t1/1", NONE);
        faultOf("t1/2", 4);
        faultOf("t1/1;t1/1", 9);
        faultOf("t1/2;t1/2", NONE);
        faultOf("t1/1;o0/1;y0/20;n0/7;u00/19", NONE);
        faultOf("t1/3;o1/3;y1/3", NONE);
        faultOf("t3/8;y5/12;n5/12", 16);
        faultOf("t3/8;y5/12;n5/24", 14);
        faultOf("t3/8;y5/12;n1/12;o1/8", NONE);
        faultOf("t1/7;o6/7", NONE);
        faultOf("t1/13;o12/13", NONE);
        faultOf("t1/5;o1/2;y3/10", NONE);
        faultOf("t1/16;o1/3;y1/3;n1/4;u1/48", 24);
        faultOf("t1/6;y7/12;n1/20;o1/5", 21);
        faultOf("t1/16;y1/3;n1/3;o3/16;u1/12", 27);
        faultOf("t1/5;y1/3;n7/15", NONE);
        faultOf("t1/20;o1/20;t1/20;o1/20;t1/20;o1/20;y1/20;n1/20;u1/20;t11/20", NONE);
        faultOf("t0/1;t0/1;t0/1;t0/1;t0/1;t0/1;t0/1;t0/1;t0/1;t0/1;t0/1;t1/1;", 60);
        faultOf("t0/1;t0/1;t0/1;t0/1;t0/1;t0/1;t0/1;t0/1;t0/1;t0/1;t0/1;t1/1", NONE);
        faultOf("t1/1" + (char) 200, 4);
    }

    private static void faultOf(String text, int want) {
        SecretLots x = Check.with("", text);
        Check.due("fault of " + text, x.fault(1), want);
    }

    private static void other() {
        SecretLots x = Check.with("u1/1");
        Check.due("other(-1)", x.other(-1), BAD);
        Check.due("other(25)", x.other(25), BAD);
        Check.due("other(0)", x.other(0), 12);
        Check.fraction("with 0", x.saysYes(0, 1, 0), x.saysYes(0, 1, 1), 0, 1);
        Check.due("other(24)", x.other(24), 0);
        Check.fraction("with 24", x.saysYes(0, 0, 0), x.saysYes(0, 0, 1), 1, 1);
        Check.due("other(7)", x.other(7), 24);
        Check.fraction("with 7", x.saysYes(0, 0, 0), x.saysYes(0, 0, 1), 7, 24);
        Check.due("count(5)", x.count(5), 7);
        Check.text(x, 3, "u1/2;y1/2");
        Check.fraction("a later design", x.saysYes(3, 0, 0), x.saysYes(3, 0, 1), 31, 48);
    }

    private static void saysYes() {
        SecretLots x = Check.with("t2/3;y1/6;n1/6", "o2/3;t1/3", "t1/2;o1/4;u1/4", "t1/2");
        Check.due("saysYes of design -1", x.saysYes(-1, 0, 0), Check.refused(BAD));
        Check.due("saysYes of design 4", x.saysYes(4, 0, 0), Check.refused(BAD));
        Check.due("saysYes of has 2", x.saysYes(0, 2, 0), Check.refused(BAD));
        Check.due("saysYes of has -1", x.saysYes(0, -1, 0), Check.refused(BAD));
        Check.due("saysYes of what 2", x.saysYes(0, 1, 2), Check.refused(BAD));
        Check.due("BAD ahead of NOT", x.saysYes(3, 1, -1), Check.refused(BAD));
        Check.due("BAD as a long", x.saysYes(3, 1, -1), -9223372036854775806L);
        Check.due("NOT", x.saysYes(3, 1, 0), -9223372036854775805L);
        Check.fraction("0 has", x.saysYes(0, 1, 0), x.saysYes(0, 1, 1), 5, 6);
        Check.fraction("0 has not", x.saysYes(0, 0, 0), x.saysYes(0, 0, 1), 1, 6);
        Check.fraction("1 has", x.saysYes(1, 1, 0), x.saysYes(1, 1, 1), 1, 3);
        Check.fraction("1 has not", x.saysYes(1, 0, 0), x.saysYes(1, 0, 1), 2, 3);
        Check.fraction("2 has", x.saysYes(2, 1, 0), x.saysYes(2, 1, 1), 5, 8);
        Check.fraction("2 has not", x.saysYes(2, 0, 0), x.saysYes(2, 0, 1), 3, 8);
        x.wipe(3);
        Check.text(x, 3, "n1/1");
        Check.fraction("0 by 1", x.saysYes(3, 1, 0), x.saysYes(3, 1, 1), 0, 1);
    }

    private static void unit() {
        SecretLots x = Check.with("t2/3;y1/6;n1/6", "t1/1", "t1/2;y1/4;n1/4", "t1/20;y19/20;u1/1");
        Check.due("unit(-1)", x.unit(-1), BAD);
        Check.due("unit(4)", x.unit(4), BAD);
        Check.due("unit(0)", x.unit(0), 6);
        Check.due("unit(1)", x.unit(1), 1);
        Check.due("unit(2)", x.unit(2), 4);
        Check.due("unit of a fault", x.unit(3), NOT);
        x.wipe(3);
        Check.text(x, 3, "t1/19;y7/19;u11/19");
        x.other(1);
        Check.due("unit that is wide", x.unit(3), 456);
        x.wipe(3);
        Check.text(x, 3, "t1/2;o1/3;n1/6");
        Check.due("unit of 1/2, 1/3", x.unit(3), 6);
    }
}
