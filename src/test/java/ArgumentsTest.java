/**
 * Each argument of each call, "a number not as told, no such thing" being BAD: the least and the greatest that
 * may be are not refused so, the one below, the one above and the ends of int are, and change nothing.
 */
public final class ArgumentsTest {
    private static final int LEAST = Integer.MIN_VALUE, MOST = Integer.MAX_VALUE;
    private static final int[] DESIGN = {0, 3}, PERSON = {0, 23}, GROUP = {0, 3}, SHEET = {0, 3}, EITHER = {0, 1};
    private static final int[] NOT_BELOW_0 = {0, MOST}, ANY = {LEAST, MOST};

    private interface Call {
        long on(SecretLots x, int[] a);
    }

    public static void main(String[] args) {
        designs();
        people();
        howMany();
        givenAway();
        sought();
        sheets();
        getAnswersTheLeastInt();
        Check.end("ArgumentsTest");
    }

    private static void designs() {
        inInts("type", (x, a) -> x.type(a[0], a[1]), of(1, 't'), DESIGN, of(0, 255));
        inInts("wipe", (x, a) -> x.wipe(a[0]), of(1), DESIGN);
        inInts("fault", (x, a) -> x.fault(a[0]), of(1), DESIGN);
        inInts("other", (x, a) -> x.other(a[0]), of(1), of(0, 24));
        inLongs("saysYes", (x, a) -> x.saysYes(a[0], a[1], a[2]), of(1, 1, 0), DESIGN, EITHER, EITHER);
        inInts("unit", (x, a) -> x.unit(a[0]), of(1), DESIGN);
    }

    private static void people() {
        inInts("pass", (x, a) -> x.pass(a[0]), of(3), of(1, 100));
        inInts("group", (x, a) -> x.group(a[0], a[1]), of(1, 1), PERSON, GROUP);
        inInts("answer", (x, a) -> x.answer(a[0], a[1], a[2]), of(1, 1, 1), PERSON, DESIGN, EITHER);
        inInts("read", (x, a) -> x.read(a[0], a[1]), of(1, 1), SHEET, DESIGN);
        inInts("takeBack", (x, a) -> x.takeBack(a[0]), of(1), of(0, 31));
        inInts("about", (x, a) -> x.about(a[0], a[1]), of(1, 1), of(0, 31), of(0, 5));
        inInts("asOf", (x, a) -> x.asOf(a[0]), of(1), of(-1, 50));
        inInts("poll", (x, a) -> x.poll(a[0], a[1], a[2]), of(1, 1, 1), GROUP, DESIGN, EITHER);
    }

    private static void howMany() {
        inLongs("share", (x, a) -> x.share(a[0], a[1], a[2]), of(1, 1, 1), GROUP, DESIGN, EITHER);
        inLongs("scatter", (x, a) -> x.scatter(a[0], a[1], a[2]), of(1, 1, 1), GROUP, DESIGN, EITHER);
        inLongs("ways", (x, a) -> x.ways(a[0], a[1], a[2]), of(1, 1, 1), GROUP, DESIGN, NOT_BELOW_0);
        inInts("likely", (x, a) -> x.likely(a[0], a[1]), of(1, 1), GROUP, DESIGN);
        inInts("span", (x, a) -> x.span(a[0], a[1], a[2], a[3]), of(1, 1, 50, 1), GROUP, DESIGN, of(1, 100), EITHER);
        inInts("atLeast", (x, a) -> x.atLeast(a[0], a[1], a[2]), of(1, 1, 1), GROUP, DESIGN, NOT_BELOW_0);
    }

    private static void givenAway() {
        inLongs("away", (x, a) -> x.away(a[0], a[1], a[2]), of(1, 1, 0), DESIGN, EITHER, EITHER);
        inLongs("given", (x, a) -> x.given(a[0], a[1]), of(1, 0), PERSON, EITHER);
        inLongs("has", (x, a) -> x.has(a[0], a[1], a[2]), of(1, 50, 0), PERSON, of(1, 99), EITHER);
        inLongs("exposed", (x, a) -> x.exposed(a[0], a[1]), of(1, 0), DESIGN, EITHER);
        inInts("limit", (x, a) -> x.limit(a[0]), of(7), of(1, 1000));
        inInts("may", (x, a) -> x.may(a[0], a[1]), of(1, 1), PERSON, DESIGN);
    }

    private static void sought() {
        inInts("best", (x, a) -> x.best(a[0], a[1], a[2]), of(5, 40, 0), of(2, 30), of(0, 100), EITHER);
        inLongs("parted", (x, a) -> x.parted(a[0], a[1], a[2], a[3], a[4]), of(1, 1, 2, 0, 0), SHEET, DESIGN, DESIGN,
                of(0, 3), EITHER);
        inInts("kept", (x, a) -> x.kept(a[0], a[1]), of(1, 1), GROUP, DESIGN);
    }

    private static void sheets() {
        // Below 0 the number of items is a finding, SIZE.
        inInts("sheet", (x, a) -> x.sheet(a[0], a[1], a[2]), of(1, 1, 5), SHEET, of(0, 2), of(LEAST, 60));
        inInts("lose", (x, a) -> x.lose(a[0]), of(1), SHEET);
        inInts("put", (x, a) -> x.put(a[0], a[1], a[2], a[3]), of(1, 2, 0, 9), SHEET, of(0, 2), ANY, ANY);
        inInts("copy", (x, a) -> x.copy(a[0], a[1], a[2], a[3], a[4]), of(1, 0, 2, 0, 1), SHEET, ANY, SHEET, ANY, ANY);
        inInts("write", (x, a) -> x.write(a[0], a[1]), of(1, 1), DESIGN, SHEET);
        inInts("count", (x, a) -> x.count(a[0]), of(1), of(0, 8));
    }

    /** "BAD: the least int", as the findings are; count() 8 tells that it is none of them. */
    private static void getAnswersTheLeastInt() {
        int[][] bad = {{-1, 2}, {4, 2}, {LEAST, 2}, {MOST, 2}, {1, -1}, {1, 3}, {1, LEAST}, {1, MOST}};
        for (int[] a : bad) {
            Unchanged.refused("get(" + a[0] + ", " + a[1] + ", 0)", States::ready, x -> x.get(a[0], a[1], 0), LEAST);
        }
        SecretLots x = States.ready();
        Check.due("get of the least sheet", x.get(0, 2, 1), 1);
        Check.due("get of the greatest sheet", x.get(3, 2, 1), 1);
        x.sheet(0, 0, 1);
        Check.due("get of the least type", x.get(0, 0, 0), 0);
        Check.due("the finding is still the one before", x.count(8), 5);
    }

    private static int[] of(int... numbers) {
        return numbers;
    }

    private static void inInts(String name, Call call, int[] fine, int[]... spans) {
        eachArgument(name, call, SecretLots.BAD, fine, spans);
    }

    private static void inLongs(String name, Call call, int[] fine, int[]... spans) {
        eachArgument(name, call, Long.MIN_VALUE + 2, fine, spans);
    }

    private static void eachArgument(String name, Call call, long bad, int[] fine, int[][] spans) {
        for (int i = 0; i < spans.length; i++) {
            int least = spans[i][0];
            int most = spans[i][1];
            mayBe(name, call, bad, with(fine, i, least));
            mayBe(name, call, bad, with(fine, i, most));
            if (least != LEAST) {
                isBad(name, call, bad, with(fine, i, least - 1));
                isBad(name, call, bad, with(fine, i, LEAST));
            }
            if (most != MOST) {
                isBad(name, call, bad, with(fine, i, most + 1));
                isBad(name, call, bad, with(fine, i, MOST));
            }
        }
    }

    private static void mayBe(String name, Call call, long bad, int[] a) {
        long got = call.on(States.ready(), a);
        Check.due(told(name, a) + " is refused as BAD", got == bad ? 1 : 0, 0);
    }

    private static void isBad(String name, Call call, long bad, int[] a) {
        Unchanged.refused(told(name, a), States::ready, x -> call.on(x, a), bad);
    }

    private static int[] with(int[] fine, int place, int v) {
        int[] a = fine.clone();
        a[place] = v;
        return a;
    }

    private static String told(String name, int[] a) {
        StringBuilder text = new StringBuilder(name).append('(');
        for (int i = 0; i < a.length; i++) {
            text.append(i == 0 ? "" : ", ").append(a[i]);
        }
        return text.append(')').toString();
    }
}
