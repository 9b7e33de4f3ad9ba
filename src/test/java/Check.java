/** Counts and prints the answers that are not due. */
final class Check {
    static final long LEAST = Long.MIN_VALUE;
    private static int wrong = 0;
    private static int held = 0;

    private Check() {
    }

    /** How many answers have been held against what is due. */
    static int held() {
        return held;
    }

    static void due(String call, long got, long want) {
        held++;
        if (got != want) {
            wrong++;
            System.out.println(call + " answered " + got + ", due is " + want);
        }
    }

    /** A refusal -x where the answer is a long. */
    static long refused(int refusal) {
        return LEAST - refusal;
    }

    /** Above and below of a fraction, from two calls. */
    static void fraction(String call, long above, long below, long wantAbove, long wantBelow) {
        due(call + " above", above, wantAbove);
        due(call + " below", below, wantBelow);
    }

    /** Types a whole text behind a design. */
    static void text(SecretLots x, int design, String text) {
        for (int i = 0; i < text.length(); i++) {
            x.type(design, text.charAt(i));
        }
    }

    /** An object whose designs are these texts. */
    static SecretLots with(String... texts) {
        SecretLots x = new SecretLots();
        for (int d = 0; d < texts.length; d++) {
            text(x, d, texts[d]);
        }
        return x;
    }

    /** Each person from 0 on answers by a design: y yes, n no. */
    static void answers(SecretLots x, int design, String said) {
        for (int p = 0; p < said.length(); p++) {
            x.answer(p, design, said.charAt(p) == 'y' ? 1 : 0);
        }
    }

    /** A sheet is made of ints that are these. */
    static void row(SecretLots x, int s, int... items) {
        x.sheet(s, 2, items.length);
        for (int i = 0; i < items.length; i++) {
            x.put(s, 2, i, items[i]);
        }
    }

    static void end(String name) {
        System.out.println(name + (wrong == 0 ? ": all answers are as due" : ": " + wrong + " answers are not as due"));
        if (wrong != 0) {
            System.exit(1);
        }
    }
}
