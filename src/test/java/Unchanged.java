import java.util.ArrayList;
import java.util.List;

/**
 * Holds a call against "they change nothing (FINDINGS but count() 8)": of two objects that are made alike one
 * has the call, the other has not, and then both are asked the same. Each way of asking has objects of its own,
 * because no object has more than 512 calls.
 */
final class Unchanged {
    interface Act {
        long on(SecretLots x);
    }

    interface State {
        SecretLots made();
    }

    private interface Asking {
        void ask(SecretLots x, List<Long> told);
    }

    private static final Asking[] ASKINGS = {
        Unchanged::askDesigns, Unchanged::askAnswers, Unchanged::askGroups, Unchanged::askSheets, Unchanged::askNumbers,
        Unchanged::askPeople
    };

    private Unchanged() {
    }

    /** The call is refused, and it is no finding. */
    static void refused(String call, State state, Act act, long want) {
        SecretLots x = state.made();
        int before = x.count(8);
        Check.due(call, act.on(x), want);
        Check.due(call + ": the latest finding", x.count(8), before);
        nothingElse(call, state, act);
    }

    /** The call is refused by a finding, which is the latest then. */
    static void found(String call, State state, Act act, long want, int finding) {
        SecretLots x = state.made();
        Check.due(call, act.on(x), want);
        Check.due(call + ": the latest finding", x.count(8), finding);
        nothingElse(call, state, act);
    }

    /** The call only asks: it answers this, as often as it comes, and changes nothing. */
    static void asked(String call, State state, Act act, long want) {
        refused(call, state, act, want);
        SecretLots x = state.made();
        act.on(x);
        Check.due(call + " once more", act.on(x), want);
    }

    private static void nothingElse(String call, State state, Act act) {
        for (int i = 0; i < ASKINGS.length; i++) {
            SecretLots with = state.made();
            SecretLots without = state.made();
            act.on(with);
            List<Long> toldWith = new ArrayList<>();
            List<Long> toldWithout = new ArrayList<>();
            ASKINGS[i].ask(with, toldWith);
            ASKINGS[i].ask(without, toldWithout);
            Check.due(call + ": asked in way " + i + ", nothing has changed", toldWith.equals(toldWithout) ? 1 : 0, 1);
        }
    }

    private static void askDesigns(SecretLots x, List<Long> told) {
        for (int d = 0; d < 4; d++) {
            told.add((long) x.fault(d));
            told.add((long) x.unit(d));
            for (int i = 0; i < 4; i++) {
                told.add(x.saysYes(d, i / 2, i % 2));
            }
            told.add((long) x.type(d, ';'));
            told.add((long) x.fault(d));
            told.add((long) x.wipe(d));
        }
    }

    private static void askAnswers(SecretLots x, List<Long> told) {
        int answers = x.count(1);
        told.add((long) answers);
        for (int what = 0; what < 6; what++) {
            // Of many answers there are calls for half of it alone: person, yes and the day taken back.
            for (int a = 0; a < answers && (answers <= 40 || what % 2 == 0); a++) {
                told.add((long) x.about(a, what));
            }
        }
        told.add((long) x.about(answers, 0));
    }

    private static void askGroups(SecretLots x, List<Long> told) {
        for (int i = 0; i < 32; i++) {
            told.add((long) x.poll(i / 8, i / 2 % 4, i % 2));
        }
        for (int p = 0; p < 24; p++) {
            told.add((long) x.group(p, 0));
        }
    }

    private static void askSheets(SecretLots x, List<Long> told) {
        for (int s = 0; s < 4; s++) {
            for (int type = 0; type < 3; type++) {
                x.get(s, type, -1);
                boolean isIt = x.count(8) == 2;
                told.add(isIt ? 1L : 0L);
                for (int i = 0; i < 60 && isIt; i++) {
                    int item = x.get(s, type, i);
                    told.add((long) item);
                    isIt = item != Integer.MIN_VALUE;
                }
            }
            told.add((long) x.lose(s));
        }
    }

    private static void askNumbers(SecretLots x, List<Long> told) {
        for (int what = 0; what < 8; what++) {
            told.add((long) x.count(what));
        }
        told.add((long) x.asOf(SecretLots.NONE));
        told.add((long) x.limit(1));
        told.add((long) x.other(0));
        told.add((long) x.pass(1));
    }

    private static void askPeople(SecretLots x, List<Long> told) {
        told.add(x.digest());
        for (int p = 0; p < 24; p++) {
            told.add(x.given(p, 1));
            for (int d = 0; d < 4; d++) {
                told.add((long) x.may(p, d));
            }
        }
    }
}
