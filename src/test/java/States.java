/** Objects in which there is something of everything, made in few calls. */
final class States {
    static final String WARNER = "t2/3;y1/6;n1/6", OPPOSITE = "o3/4;t1/4", HALF = "t1/2;y1/4;n1/4", MIXED = "t1/2;o1/6;u1/3";
    /** Without a fault, but: does not tell; and a unit above 24, whatever OTHER is from 1 to 23. */
    static final String SAME = "y1/3;n2/3", WIDE = "t12/13;u1/13";
    static final String FAULTY = "t1/2";

    private States() {
    }

    /** Designs without a fault that all tell, 8 people asked by all of them, in all groups; sheets of counts. */
    static SecretLots ready() {
        SecretLots x = Check.with(WARNER, OPPOSITE, HALF, MIXED);
        for (int s = 0; s < 4; s++) {
            Check.row(x, s, 0, 1, 1, 0, 2, 1, 3, 1, 4, 0, 5, 0, 6, 1, 7, 0);
        }
        for (int p = 0; p < 8; p++) {
            x.group(p, p % 4);
        }
        x.pass(40);
        for (int d = 0; d < 4; d++) {
            x.read(0, d);
        }
        x.takeBack(31);
        x.pass(10);
        x.asOf(45);
        settings(x);
        return x;
    }

    /** Designs: one that is right, one with a fault, one that does not tell, one that is wide; a lost sheet, 3. */
    static SecretLots mixed() {
        SecretLots x = Check.with(WARNER, FAULTY, SAME, WIDE);
        Check.row(x, 2, 0, 1, 1, 0, 2, 1, 9, 0, 10, 1, 3);
        x.read(2, 0);
        x.pass(3);
        x.read(2, 2);
        x.read(2, 3);
        x.group(9, 2);
        x.group(10, 3);
        x.takeBack(1);
        x.pass(2);
        x.takeBack(7);
        x.sheet(0, 0, 5);
        x.put(0, 0, 4, 77);
        x.sheet(1, 1, 4);
        x.put(1, 1, 0, -5);
        x.asOf(4);
        settings(x);
        return x;
    }

    /** All 120 answers are there; designs as of mixed(). */
    static SecretLots full() {
        SecretLots x = Check.with(WARNER, FAULTY, SAME, WIDE);
        int[] row = new int[60];
        for (int i = 0; i < 30; i++) {
            row[2 * i] = i % 24;
            row[2 * i + 1] = i / 2 % 2;
        }
        Check.row(x, 1, row);
        for (int d : new int[] {0, 2, 0, 3}) {
            x.read(1, d);
        }
        x.pass(1);
        settings(x);
        return x;
    }

    /** Nothing is as it is at first, so that it is told if a refused call makes it so. */
    private static void settings(SecretLots x) {
        x.limit(50);
        x.other(6);
        x.sheet(0, 0, -1);
    }
}
