import java.util.Arrays;

/**
 * Polls in which people answer as a secret lot tells them, what such polls tell of a group, and what
 * they give away of a person. The document SecretLots (promises 1 to 38) says what each call answers.
 */
public final class SecretLots {
    public static final int NONE = -1, BAD = -2, NOT = -3, FULL = -4;

    private static final int FINE = 0;
    private static final int NULL = 1, INDEX = 2, CAST = 3, STORE = 4, SIZE = 5;
    private static final int DESIGNS = 4, PEOPLE = 24, GROUPS = 4, SHEETS = 4;
    private static final int LAST_DAY = 399, MOST_DAYS_AT_ONCE = 100;
    private static final int MOST_BYTES = 60, MOST_FIGURE_VALUE = 20, MOST_LOT = 24;
    private static final int MOST_ANSWERS = 120, ANSWERS_THAT_COUNT = 2;
    private static final int MOST_LOTS = 12, MOST_ITEMS = 60, TYPES = 3;
    private static final int OTHER_AT_FIRST = 12, LIMIT_AT_FIRST = 100, MOST_LIMIT = 1000;
    private static final int LEAST_BEST_LIMIT = 2, MOST_BEST_LIMIT = 30;
    private static final int COUNTS = 4, MOST_COUNT = 999;
    private static final long MOST_GIVEN = 1000000000L;

    private final Design[] designs = new Design[DESIGNS];
    private final Sheet[] sheets = new Sheet[SHEETS];
    private final int[] groups = new int[PEOPLE];
    private final Answers answers = new Answers();
    private final Poll asked = new Poll();
    private final Lots lots = new Lots();
    private final Fraction fraction = new Fraction();
    private int today = 0;
    private int lookBack = NONE;
    private int othersYes = OTHER_AT_FIRST;
    private int mostGivenAway = LIMIT_AT_FIRST;
    private int latestFinding = 0;

    public SecretLots() {
        for (int i = 0; i < DESIGNS; i++) {
            designs[i] = new Design();
        }
        for (int i = 0; i < SHEETS; i++) {
            sheets[i] = new Sheet();
        }
    }

    // ---- designs

    public int type(int design, int b) {
        if (!isDesign(design) || b < 0 || b > 255) {
            return BAD;
        }
        Design d = designs[design];
        if (!d.append(b)) {
            return FULL;
        }
        d.settle(othersYes);
        return d.size;
    }

    public int wipe(int design) {
        if (!isDesign(design)) {
            return BAD;
        }
        Design d = designs[design];
        int before = d.size;
        d.empty();
        d.settle(othersYes);
        return before;
    }

    public int fault(int design) {
        return isDesign(design) ? designs[design].faultAt : BAD;
    }

    public int other(int v) {
        if (v < 0 || v > MOST_LOT) {
            return BAD;
        }
        int before = othersYes;
        othersYes = v;
        for (int d = 0; d < DESIGNS; d++) {
            designs[d].settle(v);
        }
        return before;
    }

    public long saysYes(int design, int has, int what) {
        if (!isDesign(design) || !isEither(has) || !isEither(what)) {
            return asLong(BAD);
        }
        Design d = designs[design];
        if (d.isFaulty()) {
            return asLong(NOT);
        }
        fraction.become(has == 1 ? d.yesIfHas : d.yesIfHasNot, d.lotUnit);
        return fraction.told(what);
    }

    public int unit(int design) {
        if (!isDesign(design)) {
            return BAD;
        }
        Design d = designs[design];
        return d.isFaulty() ? NOT : d.lotUnit;
    }

    // ---- people, answers

    public int pass(int n) {
        if (n < 1 || n > MOST_DAYS_AT_ONCE || today + n > LAST_DAY) {
            return BAD;
        }
        today += n;
        return today;
    }

    public int group(int person, int g) {
        if (!isPerson(person) || !isGroup(g)) {
            return BAD;
        }
        int before = groups[person];
        groups[person] = g;
        return before;
    }

    public int answer(int person, int design, int yes) {
        if (!isPerson(person) || !isDesign(design) || !isEither(yes)) {
            return BAD;
        }
        if (designs[design].isFaulty()) {
            return NOT;
        }
        return answers.tell(person, design, yes, today);
    }

    public int read(int s, int design) {
        if (!isSheet(s) || !isDesign(design)) {
            return BAD;
        }
        Sheet sheet = sheets[s];
        if (sheet.isLost()) {
            return found(NULL);
        }
        if (designs[design].isFaulty()) {
            return NOT;
        }
        int pairs = sheet.size / 2;
        for (int i = 0; i < pairs; i++) {
            int person = sheet.items[2 * i];
            int yes = sheet.items[2 * i + 1];
            if (!isPerson(person) || !isEither(yes) || answers.tell(person, design, yes, today) == FULL) {
                return i;
            }
        }
        return pairs;
    }

    public int takeBack(int answer) {
        if (!answers.isThere(answer)) {
            return BAD;
        }
        if (answers.takenOn[answer] != NONE) {
            return NOT;
        }
        answers.takenOn[answer] = today;
        return 1;
    }

    public int about(int answer, int what) {
        if (!answers.isThere(answer)) {
            return BAD;
        }
        switch (what) {
            case 0: return answers.people[answer];
            case 1: return answers.byDesign[answer];
            case 2: return answers.saidYes[answer];
            case 3: return answers.toldOn[answer];
            case 4: return answers.takenOn[answer];
            case 5: return answers.isKnown(answer, dayOfView()) ? 1 : 0;
            default: return BAD;
        }
    }

    public int asOf(int day) {
        if (day != NONE && (day < 0 || day > today)) {
            return BAD;
        }
        int before = lookBack;
        lookBack = day;
        return before;
    }

    public int poll(int group, int design, int what) {
        if (!isGroup(group) || !isDesign(design) || !isEither(what)) {
            return BAD;
        }
        takePoll(group, design);
        return what == 0 ? asked.people : asked.yes;
    }

    // ---- how many have it

    public long share(int group, int design, int what) {
        int refused = estimateRefusal(group, design, what, 1);
        if (refused != FINE) {
            return asLong(refused);
        }
        Design d = designs[design];
        long n = asked.people;
        fraction.become(asked.yes * (long) d.lotUnit - d.yesIfHasNot * n, n * d.difference());
        return fraction.told(what);
    }

    public long scatter(int group, int design, int what) {
        int refused = estimateRefusal(group, design, what, 2);
        if (refused != FINE) {
            return asLong(refused);
        }
        Design d = designs[design];
        long n = asked.people;
        long y = asked.yes;
        long u = d.lotUnit;
        long difference = d.difference();
        fraction.become(y * (n - y) * u * u, n * n * (n - 1) * difference * difference);
        return fraction.told(what);
    }

    public long ways(int group, int design, int k) {
        int refused = lotsRefusal(group, design, k);
        return refused != FINE ? asLong(refused) : waysOf(designs[design], k);
    }

    public int likely(int group, int design) {
        int refused = lotsRefusal(group, design, 0);
        return refused != FINE ? refused : mostLikely(designs[design]);
    }

    public int span(int group, int design, int c, int end) {
        if (c < 1 || c > 100 || !isEither(end)) {
            return BAD;
        }
        int refused = lotsRefusal(group, design, 0);
        if (refused != FINE) {
            return refused;
        }
        Design d = designs[design];
        long least = waysOf(d, mostLikely(d)) * c;
        int n = asked.people;
        int told = NONE;
        for (int i = 0; i <= n && told == NONE; i++) {
            int k = end == 0 ? i : n - i;
            if (waysOf(d, k) * 100 >= least) {
                told = k;
            }
        }
        return told;
    }

    public int atLeast(int group, int design, int k) {
        int refused = lotsRefusal(group, design, k);
        if (refused != FINE) {
            return refused;
        }
        lots.fall(designs[design], asked.people, k);
        return millionths(lots.among(asked.yes, asked.people), lots.among(0, asked.people));
    }

    // ---- given away

    public long away(int design, int yes, int what) {
        if (!isDesign(design) || !isEither(yes) || !isEither(what)) {
            return asLong(BAD);
        }
        Design d = designs[design];
        if (d.isFaulty() || d.lotsIfHasNot(yes) == 0L) {
            return asLong(NOT);
        }
        fraction.become(d.lotsIfHas(yes), d.lotsIfHasNot(yes));
        return fraction.told(what);
    }

    public long given(int person, int what) {
        if (!isPerson(person) || !isEither(what)) {
            return asLong(BAD);
        }
        int refused = multiplyGivenAway(person);
        if (refused != FINE) {
            return asLong(refused == NONE ? NOT : refused);
        }
        return fraction.told(what);
    }

    public long has(int person, int s, int what) {
        if (!isPerson(person) || s < 1 || s > 99 || !isEither(what)) {
            return asLong(BAD);
        }
        int refused = multiplyGivenAway(person);
        if (refused == NONE) {
            return 1L;
        }
        if (refused != FINE) {
            return asLong(refused);
        }
        long have = s * fraction.above;
        fraction.become(have, have + (100 - s) * fraction.below);
        return fraction.told(what);
    }

    public long exposed(int design, int what) {
        if (!isDesign(design) || !isEither(what)) {
            return asLong(BAD);
        }
        Design d = designs[design];
        if (d.isFaulty() || !d.isOpen()) {
            return asLong(NOT);
        }
        long more = Math.max(d.yesIfHas, d.yesIfHasNot);
        long less = Math.min(d.yesIfHas, d.yesIfHasNot);
        long noOfLess = d.lotUnit - less;
        long noOfMore = d.lotUnit - more;
        // The two that are turned over the other way are 1 at most, so they are never the greatest alone.
        if (more * noOfMore >= noOfLess * less) {
            fraction.become(more, less);
        } else {
            fraction.become(noOfLess, noOfMore);
        }
        return fraction.told(what);
    }

    public int limit(int l) {
        if (l < 1 || l > MOST_LIMIT) {
            return BAD;
        }
        int before = mostGivenAway;
        mostGivenAway = l;
        return before;
    }

    public int may(int person, int design) {
        if (!isPerson(person) || !isDesign(design)) {
            return BAD;
        }
        if (designs[design].isFaulty()) {
            return NOT;
        }
        return mayBeAsked(person, design) ? 1 : 0;
    }

    // ---- designs that are sought, two questions, keeping

    public int best(int limit, int s, int what) {
        if (limit < LEAST_BEST_LIMIT || limit > MOST_BEST_LIMIT || s < 0 || s > 100 || !isEither(what)) {
            return BAD;
        }
        int bestA = NONE;
        int bestB = NONE;
        for (int a = 2; a < MOST_LOT; a++) {
            for (int b = 1; b < a; b++) {
                boolean within = a <= limit * b && MOST_LOT - b <= limit * (MOST_LOT - a);
                if (within && (bestA == NONE || scattersLess(a, b, bestA, bestB, s))) {
                    bestA = a;
                    bestB = b;
                }
            }
        }
        if (bestA == NONE) {
            return NOT;
        }
        return what == 0 ? bestA : bestB;
    }

    public long parted(int s, int first, int second, int which, int what) {
        if (!isSheet(s) || !isDesign(first) || !isDesign(second) || which < 0 || which >= COUNTS || !isEither(what)) {
            return asLong(BAD);
        }
        Sheet sheet = sheets[s];
        if (sheet.isLost()) {
            return asLong(found(NULL));
        }
        if (sheet.size < COUNTS) {
            return asLong(found(INDEX));
        }
        Design one = designs[first];
        Design two = designs[second];
        long people = peopleCounted(sheet);
        if (one.isFaulty() || two.isFaulty() || !one.tells() || !two.tells() || people < 1) {
            return asLong(NOT);
        }
        part(sheet, one, two, which, people);
        return fraction.told(what);
    }

    public int kept(int group, int design) {
        int refused = estimateRefusal(group, design, 0, 1);
        if (refused == FINE) {
            refused = lotsRefusal(group, design, 0);
        }
        if (refused != FINE) {
            return refused;
        }
        Design d = designs[design];
        lots.fall(d, asked.people, d.difference() > 0 ? 0 : asked.people);
        return millionths(lots.among(0, asked.yes), lots.among(0, asked.people));
    }

    // ---- sheets

    public int sheet(int s, int type, int n) {
        if (!isSheet(s) || !isType(type) || n > MOST_ITEMS) {
            return BAD;
        }
        if (n < 0) {
            return found(SIZE);
        }
        sheets[s].begin(type, n);
        return n;
    }

    public int lose(int s) {
        if (!isSheet(s)) {
            return BAD;
        }
        return sheets[s].isLost() ? found(NULL) : sheets[s].drop();
    }

    public int put(int s, int type, int i, int v) {
        if (!isSheet(s) || !isType(type)) {
            return BAD;
        }
        int finding = itemFinding(sheets[s], type, i);
        if (finding != FINE) {
            return found(finding);
        }
        sheets[s].keep(i, v);
        return 1;
    }

    public int get(int s, int type, int i) {
        if (!isSheet(s) || !isType(type)) {
            return Integer.MIN_VALUE;
        }
        int finding = itemFinding(sheets[s], type, i);
        if (finding != FINE) {
            latestFinding = finding;
            return Integer.MIN_VALUE;
        }
        return sheets[s].items[i];
    }

    public int copy(int s, int i, int t, int j, int n) {
        if (!isSheet(s) || !isSheet(t)) {
            return BAD;
        }
        Sheet from = sheets[s];
        Sheet to = sheets[t];
        if (from.isLost() || to.isLost()) {
            return found(NULL);
        }
        if (from.kind != to.kind) {
            return found(STORE);
        }
        if (!from.hasItems(i, n) || !to.hasItems(j, n)) {
            return found(INDEX);
        }
        System.arraycopy(from.items, i, to.items, j, n);
        return 1;
    }

    public int write(int design, int s) {
        if (!isDesign(design) || !isSheet(s)) {
            return BAD;
        }
        Sheet sheet = sheets[s];
        if (sheet.isLost()) {
            return found(NULL);
        }
        if (designs[design].isFaulty()) {
            return NOT;
        }
        int written = Math.min(sheet.size, PEOPLE);
        for (int person = 0; person < written; person++) {
            sheet.keep(person, mayBeAsked(person, design) ? 1 : 0);
        }
        return written;
    }

    public int count(int what) {
        switch (what) {
            case 0: return today;
            case 1: return answers.size;
            case 2: return answers.knownOnes(dayOfView(), false);
            case 3: return answers.knownOnes(dayOfView(), true);
            case 4: return bytesOfDesigns();
            case 5: return othersYes;
            case 6: return mostGivenAway;
            case 7: return lookBack;
            case 8: return latestFinding;
            default: return BAD;
        }
    }

    public long digest() {
        long h = 17L;
        for (int what = 0; what <= 7; what++) {
            h = 31L * h + count(what);
        }
        for (int d = 0; d < DESIGNS; d++) {
            h = 31L * h + fault(d);
            for (int has = 1; has >= 0; has--) {
                h = 31L * h + saysYes(d, has, 0);
                h = 31L * h + saysYes(d, has, 1);
            }
            h = 31L * h + unit(d);
        }
        for (int g = 0; g < GROUPS; g++) {
            for (int d = 0; d < DESIGNS; d++) {
                h = 31L * h + poll(g, d, 0);
                h = 31L * h + poll(g, d, 1);
                h = 31L * h + likely(g, d);
            }
        }
        for (int person = 0; person < PEOPLE; person++) {
            h = 31L * h + given(person, 0);
        }
        return h;
    }

    // ---- what may be

    private static boolean isDesign(int design) {
        return design >= 0 && design < DESIGNS;
    }

    private static boolean isPerson(int person) {
        return person >= 0 && person < PEOPLE;
    }

    private static boolean isGroup(int group) {
        return group >= 0 && group < GROUPS;
    }

    private static boolean isSheet(int s) {
        return s >= 0 && s < SHEETS;
    }

    private static boolean isType(int type) {
        return type >= 0 && type < TYPES;
    }

    private static boolean isEither(int choice) {
        return choice == 0 || choice == 1;
    }

    // ---- how refusals are told

    private static long asLong(int refusal) {
        return Long.MIN_VALUE - refusal;
    }

    private int found(int finding) {
        latestFinding = finding;
        return -10 - finding;
    }

    private static int itemFinding(Sheet sheet, int type, int i) {
        if (sheet.isLost()) {
            return NULL;
        }
        if (sheet.kind != type) {
            return CAST;
        }
        return sheet.hasItems(i, 1) ? FINE : INDEX;
    }

    /** Takes the poll, too, unless it answers BAD. */
    private int estimateRefusal(int group, int design, int what, int leastPeople) {
        if (!isGroup(group) || !isDesign(design) || !isEither(what)) {
            return BAD;
        }
        takePoll(group, design);
        Design d = designs[design];
        return d.isFaulty() || !d.tells() || asked.people < leastPeople ? NOT : FINE;
    }

    /** Takes the poll, too, unless it answers BAD. */
    private int lotsRefusal(int group, int design, int k) {
        if (!isGroup(group) || !isDesign(design) || k < 0) {
            return BAD;
        }
        takePoll(group, design);
        Design d = designs[design];
        if (d.isFaulty() || k > asked.people) {
            return NOT;
        }
        return asked.people > MOST_LOTS || d.isWide() ? FULL : FINE;
    }

    // ---- designs and polls

    private int bytesOfDesigns() {
        int bytes = 0;
        for (int d = 0; d < DESIGNS; d++) {
            bytes += designs[d].size;
        }
        return bytes;
    }

    private int dayOfView() {
        return lookBack == NONE ? today : lookBack;
    }

    private void takePoll(int group, int design) {
        asked.begin();
        int day = dayOfView();
        for (int i = 0; i < answers.size; i++) {
            int person = answers.people[i];
            if (answers.byDesign[i] == design && groups[person] == group && answers.isKnown(i, day)) {
                asked.hear(person, answers.saidYes[i]);
            }
        }
    }

    // ---- ways of the poll that was taken last

    private long waysOf(Design d, int k) {
        lots.fall(d, asked.people, k);
        return lots.among(asked.yes, asked.yes);
    }

    private int mostLikely(Design d) {
        int best = 0;
        long most = waysOf(d, 0);
        for (int k = 1; k <= asked.people; k++) {
            long counted = waysOf(d, k);
            if (counted > most) {
                most = counted;
                best = k;
            }
        }
        return best;
    }

    /** Figure by figure, because a million times the ways is more than a long holds. */
    private static int millionths(long part, long whole) {
        if (whole < 1) {
            return 0;
        }
        long told = part / whole;
        long rest = part % whole;
        for (int figure = 0; figure < 6; figure++) {
            rest *= 10;
            told = told * 10 + rest / whole;
            rest %= whole;
        }
        return (int) told;
    }

    // ---- given away

    /**
     * Leaves what a person has given away in the fraction; NOT for a fault, NONE, or FULL if that is
     * not to be had.
     */
    private int multiplyGivenAway(int person) {
        answers.pick(person, dayOfView());
        int refused = pickedRefusal();
        fraction.become(1L, 1L);
        for (int i = 0; i < answers.pickedSize && refused == FINE; i++) {
            int answer = answers.picked[i];
            multiplyByAnswer(designs[answers.byDesign[answer]], answers.saidYes[answer]);
            if (fraction.isAbove(MOST_GIVEN)) {
                refused = FULL;
            }
        }
        return refused;
    }

    /** A pass of its own, because a fault is told ahead of NONE, and NONE ahead of FULL. */
    private int pickedRefusal() {
        int refused = FINE;
        for (int i = 0; i < answers.pickedSize; i++) {
            int answer = answers.picked[i];
            Design d = designs[answers.byDesign[answer]];
            if (d.isFaulty()) {
                return NOT;
            }
            if (d.lotsIfHasNot(answers.saidYes[answer]) == 0L) {
                refused = NONE;
            }
        }
        return refused;
    }

    private void multiplyByAnswer(Design d, int yes) {
        fraction.become(fraction.above * d.lotsIfHas(yes), fraction.below * d.lotsIfHasNot(yes));
    }

    private boolean mayBeAsked(int person, int design) {
        Design d = designs[design];
        boolean isFit = d.tells() && d.isOpen();
        if (!isFit || multiplyGivenAway(person) != FINE || answers.pickedBy[design] >= ANSWERS_THAT_COUNT) {
            return false;
        }
        long above = fraction.above;
        long below = fraction.below;
        boolean stays = true;
        for (int yes = 0; yes <= 1; yes++) {
            fraction.become(above, below);
            multiplyByAnswer(d, yes);
            stays = stays && isWithinLimit();
        }
        return stays;
    }

    /** What could not be told of a person any more (FULL) is not within any limit. */
    private boolean isWithinLimit() {
        return !fraction.isAbove(MOST_GIVEN) && fraction.above <= mostGivenAway * fraction.below
                && fraction.below <= mostGivenAway * fraction.above;
    }

    // ---- designs that are sought, two questions

    private static boolean scattersLess(int a, int b, int otherA, int otherB, int s) {
        long square = (long) (a - b) * (a - b);
        long otherSquare = (long) (otherA - otherB) * (otherA - otherB);
        return spreadOfYes(a, b, s) * otherSquare < spreadOfYes(otherA, otherB, s) * square;
    }

    /** R times (1 less R), with R in 2400ths, so that it is whole. */
    private static long spreadOfYes(int a, int b, int s) {
        long r = (long) s * a + (100L - s) * b;
        return r * (100L * MOST_LOT - r);
    }

    /** All people whom the first four items count; NONE if one of them is no count. */
    private static long peopleCounted(Sheet sheet) {
        long people = 0L;
        for (int i = 0; i < COUNTS; i++) {
            int counted = sheet.items[i];
            if (counted < 0 || counted > MOST_COUNT) {
                return NONE;
            }
            people += counted;
        }
        return people;
    }

    private void part(Sheet sheet, Design one, Design two, int which, long people) {
        boolean hasOne = which == 0 || which == 1;
        boolean hasTwo = which == 0 || which == 2;
        long above = 0L;
        for (int i = 0; i < COUNTS; i++) {
            int saidOne = i < 2 ? 1 : 0;
            int saidTwo = i % 2 == 0 ? 1 : 0;
            above += sheet.items[i] * one.weight(hasOne, saidOne) * two.weight(hasTwo, saidTwo);
        }
        fraction.become(above, people * one.difference() * two.difference());
    }

    private static long commonDivisor(long a, long b) {
        long big = Math.abs(a);
        long small = Math.abs(b);
        // Each second step halves what is left, so 200 steps are more than any two longs need.
        for (int step = 0; step < 200 && small != 0L; step++) {
            long rest = big % small;
            big = small;
            small = rest;
        }
        return big;
    }

    /** A fraction in lowest terms whose sign is above. */
    private static final class Fraction {
        long above = 0L;
        long below = 1L;

        void become(long newAbove, long newBelow) {
            long divisor = commonDivisor(newAbove, newBelow);
            if (newBelow < 0L) {
                divisor = -divisor;
            }
            if (divisor != 0L) {
                above = newAbove / divisor;
                below = newBelow / divisor;
            }
        }

        boolean isAbove(long most) {
            return above > most || below > most;
        }

        long told(int what) {
            return what == 0 ? above : below;
        }
    }

    /** A design's text, and what it comes to. */
    private static final class Design {
        /** A multiple of 1 to 20, so that every share is whole in it. */
        private static final long WHOLE = 232792560L;
        private static final int TRUTH = 0, OPPOSITE = 1, YES = 2, NO = 3, OTHER = 4, LETTERS = 5;

        private final int[] text = new int[MOST_BYTES];
        private final long[] shares = new long[LETTERS];
        private long common = WHOLE;
        private int at = 0;
        int size = 0;
        int faultAt = 0;
        int yesIfHas = 0;
        int yesIfHasNot = 0;
        int lotUnit = 1;

        boolean append(int b) {
            if (size >= MOST_BYTES) {
                return false;
            }
            text[size] = b;
            size++;
            return true;
        }

        void empty() {
            size = 0;
        }

        /** To be called whenever the text or OTHER has changed. */
        void settle(int othersYes) {
            faultAt = parse();
            if (!isFaulty()) {
                settleLots(othersYes);
            }
        }

        private void settleLots(int othersYes) {
            long whole = WHOLE * MOST_LOT;
            long alike = shares[YES] * MOST_LOT + shares[OTHER] * othersYes;
            long ifHas = shares[TRUTH] * MOST_LOT + alike;
            long ifHasNot = shares[OPPOSITE] * MOST_LOT + alike;
            long divisor = commonDivisor(whole, commonDivisor(ifHas, ifHasNot));
            if (divisor > 0L) {
                lotUnit = (int) (whole / divisor);
                yesIfHas = (int) (ifHas / divisor);
                yesIfHasNot = (int) (ifHasNot / divisor);
            }
        }

        private int parse() {
            Arrays.fill(shares, 0L);
            common = WHOLE;
            at = 0;
            for (int part = 0; part < MOST_BYTES; part++) {
                int wrong = parsePart();
                if (wrong != NONE) {
                    return wrong;
                }
                if (at >= size) {
                    return faultOfShares();
                }
                if (byteAt(at) != ';') {
                    return at;
                }
                at++;
            }
            return size;
        }

        private int parsePart() {
            int letter = letterOf(byteAt(at));
            if (letter == NONE) {
                return at;
            }
            int aboveAt = at + 1;
            at = aboveAt;
            int above = parseNumber();
            if (above > MOST_FIGURE_VALUE) {
                return aboveAt;
            }
            if (above == NONE || byteAt(at) != '/') {
                return at;
            }
            int belowAt = at + 1;
            at = belowAt;
            int below = parseNumber();
            if (below == NONE || below < 1 || below > MOST_FIGURE_VALUE || below < above) {
                return belowAt;
            }
            long share = WHOLE / below * above;
            shares[letter] += share;
            common = commonDivisor(common, share);
            return NONE;
        }

        /** The number of one or two figures from here on, NONE if there is no figure. */
        private int parseNumber() {
            int first = figureAt(at);
            if (first == NONE) {
                return NONE;
            }
            at++;
            int second = figureAt(at);
            if (second == NONE) {
                return first;
            }
            at++;
            return first * 10 + second;
        }

        private int faultOfShares() {
            long sum = 0L;
            for (int i = 0; i < LETTERS; i++) {
                sum += shares[i];
            }
            boolean isRight = sum == WHOLE && common > 0L && WHOLE / common <= MOST_LOT;
            return isRight ? NONE : size;
        }

        private int byteAt(int place) {
            return place >= 0 && place < size && place < MOST_BYTES ? text[place] : NONE;
        }

        private int figureAt(int place) {
            int b = byteAt(place);
            return b >= '0' && b <= '9' ? b - '0' : NONE;
        }

        private static int letterOf(int b) {
            switch (b) {
                case 't': return TRUTH;
                case 'o': return OPPOSITE;
                case 'y': return YES;
                case 'n': return NO;
                case 'u': return OTHER;
                default: return NONE;
            }
        }

        boolean isFaulty() {
            return faultAt != NONE;
        }

        boolean tells() {
            return yesIfHas != yesIfHasNot;
        }

        boolean isWide() {
            return lotUnit > MOST_LOT;
        }

        /** Whether everybody may say yes and may say no, so that nothing is by 0. */
        boolean isOpen() {
            return yesIfHas > 0 && yesIfHasNot > 0 && yesIfHas < lotUnit && yesIfHasNot < lotUnit;
        }

        long difference() {
            return yesIfHas - yesIfHasNot;
        }

        long lotsIfHas(int yes) {
            return yes == 1 ? yesIfHas : lotUnit - yesIfHas;
        }

        long lotsIfHasNot(int yes) {
            return yes == 1 ? yesIfHasNot : lotUnit - yesIfHasNot;
        }

        /** What one who says this counts for among those who have it, or have not, by the difference. */
        long weight(boolean has, int yes) {
            if (has) {
                return yes == 1 ? lotUnit - yesIfHasNot : -yesIfHasNot;
            }
            return yes == 1 ? yesIfHas - lotUnit : yesIfHas;
        }
    }

    /** All answers in the order in which they were told. */
    private static final class Answers {
        final int[] people = new int[MOST_ANSWERS];
        final int[] byDesign = new int[MOST_ANSWERS];
        final int[] saidYes = new int[MOST_ANSWERS];
        final int[] toldOn = new int[MOST_ANSWERS];
        final int[] takenOn = new int[MOST_ANSWERS];
        final int[] pickedBy = new int[DESIGNS];
        final int[] picked = new int[DESIGNS * ANSWERS_THAT_COUNT];
        int pickedSize = 0;
        int size = 0;

        int tell(int person, int design, int yes, int day) {
            if (size >= MOST_ANSWERS) {
                return FULL;
            }
            people[size] = person;
            byDesign[size] = design;
            saidYes[size] = yes;
            toldOn[size] = day;
            takenOn[size] = NONE;
            size++;
            return size - 1;
        }

        boolean isThere(int answer) {
            return answer >= 0 && answer < size;
        }

        boolean isKnown(int answer, int day) {
            return toldOn[answer] <= day && (takenOn[answer] == NONE || takenOn[answer] > day);
        }

        int knownOnes(int day, boolean yesAlone) {
            int known = 0;
            for (int i = 0; i < size; i++) {
                if (isKnown(i, day) && (!yesAlone || saidYes[i] == 1)) {
                    known++;
                }
            }
            return known;
        }

        /** Picks what counts of a person: of each design the first answers that are known. */
        void pick(int person, int day) {
            Arrays.fill(pickedBy, 0);
            pickedSize = 0;
            for (int i = 0; i < size; i++) {
                int design = byDesign[i];
                if (people[i] == person && isKnown(i, day) && pickedBy[design] < ANSWERS_THAT_COUNT) {
                    picked[pickedSize] = i;
                    pickedSize++;
                    pickedBy[design]++;
                }
            }
        }
    }

    /** How many people of a poll were heard, each of them once, and how many said yes. */
    private static final class Poll {
        private int heard = 0;
        int people = 0;
        int yes = 0;

        void begin() {
            heard = 0;
            people = 0;
            yes = 0;
        }

        void hear(int person, int saidYes) {
            int mark = 1 << person;
            if ((heard & mark) == 0) {
                heard |= mark;
                people++;
                yes += saidYes;
            }
        }
    }

    /** In how many ways the lots of some people can fall, by the number that then say yes. */
    private static final class Lots {
        private final long[] ways = new long[MOST_LOTS + 1];

        /** For so many people (MOST_LOTS at most), of whom the first few have it. */
        void fall(Design d, int people, int have) {
            Arrays.fill(ways, 0L);
            ways[0] = 1L;
            for (int i = 0; i < people && i < MOST_LOTS; i++) {
                long yes = i < have ? d.lotsIfHas(1) : d.lotsIfHasNot(1);
                addPerson(yes, d.lotUnit - yes, i + 1);
            }
        }

        private void addPerson(long yes, long no, int people) {
            for (int y = people; y > 0; y--) {
                ways[y] = ways[y] * no + ways[y - 1] * yes;
            }
            ways[0] *= no;
        }

        long among(int leastYes, int mostYes) {
            long sum = 0L;
            for (int y = Math.max(leastYes, 0); y <= mostYes && y <= MOST_LOTS; y++) {
                sum += ways[y];
            }
            return sum;
        }
    }

    /** A row of one type; its room is made once and used again, because all calls share one room. */
    private static final class Sheet {
        final int[] items = new int[MOST_ITEMS];
        int kind = NONE;
        int size = 0;

        boolean isLost() {
            return kind == NONE;
        }

        void begin(int type, int n) {
            Arrays.fill(items, 0);
            kind = type;
            size = n;
        }

        int drop() {
            int before = size;
            kind = NONE;
            size = 0;
            return before;
        }

        boolean hasItems(int from, int n) {
            return from >= 0 && n >= 0 && n <= size && from <= size - n;
        }

        void keep(int i, int v) {
            if (kind == 0) {
                items[i] = (byte) v;
            } else if (kind == 1) {
                items[i] = (short) v;
            } else {
                items[i] = v;
            }
        }
    }
}
