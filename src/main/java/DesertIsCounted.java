import java.util.Arrays;

/**
 * The desert is counted: ten dips with grains between two posts, up to six
 * corporals who count them, and wind that carries grains from dip to dip.
 *
 * What the calls look at in mind happens on one second desert that is made
 * once, so that no call leaves anything behind but its answer.
 */
public final class DesertIsCounted {
    private static final int DIPS = 10;
    private static final int CORPORALS = 6;
    private static final int KINDS = 8;
    private static final int FIGURES = 10;
    private static final int SHELVES = 8;
    private static final int SORTS = 3;
    private static final int MOST_GRAINS = 999;
    private static final int MOST_IN_BOOK = 9999;
    private static final int MOST_WIND = 9;
    private static final int LAST_DAY = 999;
    private static final int MOST_DAYS_ON = 60;
    private static final int MOST_ELEMENTS = 100;

    private static final int NO_SUCH = -1;
    private static final int NO_ROOM = -2;
    private static final int NOT_AS_IT_MUST_BE = -3;
    private static final int NONE = -4;
    private static final int NOTHING_HELD = -11;
    private static final int OTHER_KIND = -12;
    private static final int NO_PLACE = -13;
    private static final int SIZE_BELOW_0 = -14;
    private static final int NO_FAILURE = -15;
    /** Where answers may be below 0 by themselves, refusals are told far above them. */
    private static final int NO_SUCH_TOLD_HIGH = 1000000000 - NO_SUCH;

    private static final int FAULT_OF_FORM = -1000;
    private static final int FAULT_OF_STATEMENT = -2000;

    private static final int PAIR_REACH = 3;
    private static final int DAYS_OF_TWO = 5;
    private static final int FINE_FOR_WRITING = 20;
    private static final int MOST_STORM_DAYS = 7;
    private static final int MOST_DESERTS = 20;
    private static final int DAYS_OF_DESERTS = 10;
    private static final int DRAWN_GRAINS_BELOW = 200;

    private final Desert now = new Desert();
    private final Desert mind = new Desert();
    private final Desert taken = new Desert();
    private boolean imageIsTaken = false;
    private final Shelf[] shelves = new Shelf[SHELVES];
    /** What each of the two has more in his book, by the pair of choices (twice the one's and the other's). */
    private final int[] gainsOfOne = new int[4];
    private final int[] gainsOfOther = new int[4];

    public DesertIsCounted() {
        for (int d = 0; d < SHELVES; d++) {
            shelves[d] = new Shelf();
        }
    }

    // ---- the desert as told

    public int desert(int d) {
        Shelf text = shelfOrNull(d);
        if (text == null) {
            return NO_SUCH;
        }
        if (text.held == Shelf.NOTHING) {
            return NOTHING_HELD;
        }
        if (text.held != Shelf.ROW || text.sort != Shelf.BYTES) {
            return OTHER_KIND;
        }
        int badPlace = Text.placeOfBadForm(text);
        if (badPlace >= 0) {
            return FAULT_OF_FORM - badPlace;
        }
        // The statements go on the desert in mind, since with a fault none of them may come.
        mind.becomes(now);
        int statements = 0;
        // A statement has a letter and a ";" at least, so it can be seen here that this ends.
        for (int place = 0; place < text.size; place += Math.max(2, Text.lengthOfStatement(text, place))) {
            if (!Text.isDoneOn(mind, text, place)) {
                return FAULT_OF_STATEMENT - place;
            }
            statements++;
        }
        now.becomes(mind);
        return statements;
    }

    public int corporal(int c, int what) {
        if (!isCorporal(c)) {
            return NO_SUCH;
        }
        switch (what) {
            case 0:
                return now.kind[c];
            case 1:
                return now.figure[c];
            case 2:
                return now.at[c];
            case 3:
                return now.way[c];
            case 4:
                return now.book[c];
            case 5:
                return hasBit(now.resting, c) ? 1 : 0;
            case 6:
                return Kind.counts(now.kind[c], now.figure[c], now.leftIn(now.at[c]), now.day + 1);
            default:
                return NO_SUCH;
        }
    }

    public int dip(int dip, int what) {
        if (!isDip(dip)) {
            return NO_SUCH;
        }
        switch (what) {
            case 0:
                return now.grains[dip];
            case 1:
                return now.done[dip];
            case 2:
                return now.whoIsAt(dip);
            default:
                return NO_SUCH;
        }
    }

    public int comes(int d, int dip, int way) {
        if (!isDip(dip) || !isWithin(way, 0, 1)) {
            return NO_SUCH;
        }
        Shelf shelf = shelfOrNull(d);
        int refusal = refusalUnless(shelf, Shelf.KIND);
        if (shelf == null || refusal != 0) {
            return refusal;
        }
        if (!now.hasRoom()) {
            return NO_ROOM;
        }
        now.takesIn(shelf.kind, shelf.figure, dip, way);
        return now.corporals - 1;
    }

    public int fills(int dip, int v) {
        if (!isDip(dip) || !isWithin(v, 0, MOST_GRAINS)) {
            return NO_SUCH;
        }
        int before = now.grains[dip];
        now.refill(dip, v);
        return before;
    }

    public int blows(int v) {
        if (!isWithin(v, -MOST_WIND, MOST_WIND)) {
            return NO_SUCH_TOLD_HIGH;
        }
        int before = now.wind;
        now.wind = v;
        return before;
    }

    public int rests(int c) {
        if (!isCorporal(c)) {
            return NO_SUCH;
        }
        now.turnRest(c);
        return hasBit(now.resting, c) ? 1 : 0;
    }

    public int moves(int c, int dip) {
        if (!isCorporal(c) || !isDip(dip)) {
            return NO_SUCH;
        }
        int before = now.at[c];
        now.at[c] = dip;
        return before;
    }

    public int flood() {
        int before = now.allBooks();
        now.setBack();
        return before;
    }

    public int days(int n) {
        if (!isWithin(n, 1, MOST_DAYS_ON)) {
            return NO_SUCH;
        }
        if (now.day + n > LAST_DAY) {
            return NOT_AS_IT_MUST_BE;
        }
        now.passDays(n);
        return now.allBooks();
    }

    // ---- days on

    public int corporalThen(int c, int n, int what) {
        if (!isCorporal(c) || !isDaysOn(n) || !isWithin(what, 0, 1)) {
            return NO_SUCH;
        }
        lookOn(n);
        return what == 0 ? mind.at[c] : mind.book[c];
    }

    public int dipThen(int dip, int n, int what) {
        if (!isDip(dip) || !isDaysOn(n) || !isWithin(what, 0, 1)) {
            return NO_SUCH;
        }
        lookOn(n);
        return what == 0 ? mind.grains[dip] : mind.done[dip];
    }

    public int dipsDone(int n) {
        if (!isDaysOn(n)) {
            return NO_SUCH;
        }
        lookOn(n);
        return mind.doneDips();
    }

    public int ends(int dip) {
        if (dip != -1 && !isDip(dip)) {
            return NO_SUCH;
        }
        int wanted = dip == -1 ? (1 << DIPS) - 1 : 1 << dip;
        mind.becomes(now);
        for (int n = 0; n <= MOST_DAYS_ON; n++) {
            if ((mind.doneDips() & wanted) == wanted) {
                return n;
            }
            mind.passDay();
        }
        return NONE;
    }

    public int meet(int a, int b) {
        if (!isCorporal(a) || !isCorporal(b) || a == b) {
            return NO_SUCH;
        }
        mind.becomes(now);
        for (int n = 0; n <= MOST_DAYS_ON; n++) {
            if (Math.abs(mind.at[a] - mind.at[b]) <= 1) {
                return n;
            }
            mind.passDay();
        }
        return NONE;
    }

    public int line(int n) {
        if (!isDaysOn(n)) {
            return NO_SUCH;
        }
        lookOn(n);
        int greatest = 0;
        int least = DIPS - 1;
        for (int c = 0; c < mind.corporals; c++) {
            if (mind.way[c] == 0) {
                greatest = Math.max(greatest, mind.at[c]);
            } else {
                least = Math.min(least, mind.at[c]);
            }
        }
        return 10 * greatest + least;
    }

    public int treaty(int n) {
        if (!isDaysOn(n)) {
            return NO_SUCH_TOLD_HIGH;
        }
        lookOn(n);
        int more = 0;
        for (int c = 0; c < mind.corporals; c++) {
            more += mind.way[c] == 0 ? mind.book[c] : -mind.book[c];
        }
        return more;
    }

    // ---- winds, whom to send

    public int bestWind(int n, int what) {
        if (!isDaysOn(n) || !isWithin(what, 0, 1)) {
            return NO_SUCH_TOLD_HIGH;
        }
        int best = -MOST_WIND;
        int most = -1;
        for (int wind = -MOST_WIND; wind <= MOST_WIND; wind++) {
            mind.becomes(now);
            mind.wind = wind;
            mind.passDays(n);
            int books = mind.allBooks();
            if (books > most) {
                most = books;
                best = wind;
            }
        }
        return what == 0 ? best : most;
    }

    public int send(int c, int n, int what) {
        if (!isCorporal(c) || !isDaysOn(n) || !isWithin(what, 0, 1)) {
            return NO_SUCH;
        }
        int best = 0;
        int most = -1;
        for (int dip = 0; dip < DIPS; dip++) {
            mind.becomes(now);
            mind.at[c] = dip;
            mind.passDays(n);
            int number = Integer.bitCount(mind.doneDips());
            if (number > most) {
                most = number;
                best = dip;
            }
        }
        return what == 0 ? best : most;
    }

    public int idle(int n) {
        if (!isDaysOn(n)) {
            return NO_SUCH;
        }
        lookOn(n);
        int withHim = mind.allBooks();
        for (int c = 0; c < now.corporals; c++) {
            mind.becomes(now);
            mind.resting |= 1 << c;
            mind.passDays(n);
            if (mind.allBooks() >= withHim) {
                return c;
            }
        }
        return NONE;
    }

    public int slowest(int n) {
        if (!isDaysOn(n)) {
            return NO_SUCH;
        }
        lookOn(n);
        int slowest = NONE;
        int least = MOST_IN_BOOK + 1;
        for (int c = 0; c < now.corporals; c++) {
            int more = mind.book[c] - now.book[c];
            if (more < least) {
                least = more;
                slowest = c;
            }
        }
        return slowest;
    }

    public int lost(int n) {
        if (!isDaysOn(n)) {
            return NO_SUCH;
        }
        lookOn(n);
        return mind.blownOnDone;
    }

    public int heap(int n, int what) {
        if (!isDaysOn(n) || !isWithin(what, 0, 1)) {
            return NO_SUCH;
        }
        lookOn(n);
        int heap = 0;
        for (int dip = 1; dip < DIPS; dip++) {
            if (mind.grains[dip] > mind.grains[heap]) {
                heap = dip;
            }
        }
        return what == 0 ? heap : mind.grains[heap];
    }

    public int begin(int c, int n) {
        if (!isCorporal(c) || !isDaysOn(n)) {
            return NO_SUCH;
        }
        int best = 0;
        int most = -1;
        for (int way = 0; way <= 1; way++) {
            for (int dip = 0; dip < DIPS; dip++) {
                mind.becomes(now);
                mind.way[c] = way;
                mind.at[c] = dip;
                mind.passDays(n);
                if (mind.book[c] > most) {
                    most = mind.book[c];
                    best = 10 * way + dip;
                }
            }
        }
        return best;
    }

    public int pairs() {
        int pairs = 0;
        int paired = 0;
        // All reach equally far: from the least dip on, each takes the free one in the
        // least dip that he can reach, and no other choice makes more twos.
        for (int dip = 0; dip < DIPS; dip++) {
            for (int c = 0; c < now.corporals; c++) {
                int other = now.way[c] == 0 && now.at[c] == dip ? leastInReach(dip, paired) : NONE;
                if (other >= 0) {
                    paired |= 1 << other;
                    pairs++;
                }
            }
        }
        return pairs;
    }

    public int even(int what) {
        if (!isWithin(what, 0, 1)) {
            return NO_SUCH;
        }
        int all = now.allGrains();
        int upTo = 0;
        int best = 0;
        int least = all + 1;
        for (int dip = 0; dip < DIPS - 1; dip++) {
            upTo += now.grains[dip];
            int difference = Math.abs(upTo - (all - upTo));
            if (difference < least) {
                least = difference;
                best = dip;
            }
        }
        return what == 0 ? best : least;
    }

    // ---- how many, what he is

    public int howMany(int d, int dip, int what) {
        if (!isDip(dip) || !isWithin(what, 0, 2)) {
            return NO_SUCH;
        }
        Shelf told = shelfOrNull(d);
        int refusal = refusalUnless(told, Shelf.ROW);
        if (told == null || refusal != 0) {
            return refusal;
        }
        int number = 0;
        int least = NONE;
        int greatest = NONE;
        int days = told.behindLastTold();
        for (int grains = now.done[dip]; grains <= MOST_GRAINS; grains++) {
            if (isDoneAsTold(told, days, dip, grains)) {
                number++;
                least = least == NONE ? grains : least;
                greatest = grains;
            }
        }
        return what == 0 ? number : what == 1 ? least : greatest;
    }

    public int whatIs(int d, int c, int what) {
        if (!isCorporal(c) || !isWithin(what, 0, 1)) {
            return NO_SUCH;
        }
        Shelf told = shelfOrNull(d);
        int refusal = refusalUnless(told, Shelf.ROW);
        if (told == null || refusal != 0) {
            return refusal;
        }
        int bits = 0;
        int days = told.behindLastTold();
        // The one that is not asked for stays what it is now.
        int number = what == 0 ? KINDS : FIGURES;
        for (int other = 0; other < number; other++) {
            mind.becomes(now);
            if (what == 0) {
                mind.kind[c] = other;
            } else {
                mind.figure[c] = other;
            }
            if (isBookInMindAsTold(told, days, c)) {
                bits |= 1 << other;
            }
        }
        return bits;
    }

    public int two(int a, int b) {
        if (!isCorporal(a) || !isCorporal(b) || a == b) {
            return NO_SUCH;
        }
        for (int pair = 0; pair < gainsOfOne.length; pair++) {
            playTwo(a, b, pair);
        }
        for (int pair = 0; pair < gainsOfOne.length; pair++) {
            boolean oneStays = gainsOfOne[pair] >= gainsOfOne[pair ^ 2];
            boolean otherStays = gainsOfOther[pair] >= gainsOfOther[pair ^ 1];
            if (oneStays && otherStays) {
                return 10 * (pair >> 1) + (pair & 1);
            }
        }
        return NONE;
    }

    public long storm(int dip, int n, int t, int part) {
        if (!isDip(dip) || !isWithin(n, 0, MOST_STORM_DAYS) || !isWithin(t, 2, 20) || !isWithin(part, 0, 1)) {
            return NO_SUCH_TOLD_HIGH;
        }
        long above = 0;
        for (int stormDays = 0; stormDays < 1 << n; stormDays++) {
            mind.becomes(now);
            long ways = 1;
            for (int day = 0; day < n; day++) {
                boolean storms = hasBit(stormDays, day);
                mind.wind = storms ? MOST_WIND : now.wind;
                ways *= storms ? 1 : t - 1;
                mind.passDay();
            }
            if (mind.isDone(dip)) {
                above += ways;
            }
        }
        long below = 1;
        for (int day = 0; day < n; day++) {
            below *= t;
        }
        return partInLeastTerms(above, below, part);
    }

    public long mean(int part) {
        if (!isWithin(part, 0, 1)) {
            return NO_SUCH_TOLD_HIGH;
        }
        return partInLeastTerms(now.allGrains(), DIPS, part);
    }

    // ---- told books, deserts by seeds

    public int forged(int d) {
        Shelf told = shelfOrNull(d);
        int refusal = refusalUnless(told, Shelf.ROW);
        if (told == null || refusal != 0) {
            return refusal;
        }
        for (int dip = 0; dip < told.size; dip++) {
            if (dip >= DIPS || !isWithin(told.elements[dip], 0, now.grains[dip])) {
                return dip;
            }
        }
        return NONE;
    }

    public int judge(int d) {
        Shelf told = shelfOrNull(d);
        int refusal = refusalUnless(told, Shelf.ROW);
        if (told == null || refusal != 0) {
            return refusal;
        }
        mind.becomes(now);
        for (int n = 0; n < told.size; n++) {
            if (!told.allows(n, mind.allBooks())) {
                return n;
            }
            mind.passDay();
        }
        return NONE;
    }

    public int deserts(int n, int z, int what) {
        if (!isWithin(n, 1, MOST_DESERTS) || !isWithin(what, 0, 1)) {
            return NO_SUCH;
        }
        int booksNow = now.allBooks();
        int doneTogether = 0;
        int moreTogether = 0;
        int seed = z;
        for (int i = 0; i < n; i++) {
            mind.becomes(now);
            for (int dip = 0; dip < DIPS; dip++) {
                seed = nextSeed(seed);
                mind.refill(dip, drawBelow(seed, DRAWN_GRAINS_BELOW));
            }
            mind.passDays(DAYS_OF_DESERTS);
            doneTogether += Integer.bitCount(mind.doneDips());
            moreTogether += mind.allBooks() - booksNow;
        }
        return what == 0 ? doneTogether : moreTogether;
    }

    // ---- the image, what is told

    public int image() {
        taken.becomes(now);
        imageIsTaken = true;
        return now.day;
    }

    public int restore() {
        if (!imageIsTaken) {
            return NOT_AS_IT_MUST_BE;
        }
        now.becomes(taken);
        return now.day;
    }

    public int count(int what) {
        switch (what) {
            case 0:
                return now.corporals;
            case 1:
                return now.day;
            case 2:
                return now.allGrains();
            case 3:
                return now.allDone();
            case 4:
                return now.allBooks();
            case 5:
                return now.resting;
            case 6:
                return now.wind + 9;
            default:
                return NO_SUCH;
        }
    }

    // ---- shelves

    public int keep(int d, int what, int k, int figure) {
        Shelf shelf = shelfOrNull(d);
        if (shelf == null || !isWithin(what, 0, 1)) {
            return NO_SUCH;
        }
        if (what == 0) {
            shelf.holdNothing();
            return 0;
        }
        if (!isWithin(k, 0, KINDS - 1) || !isWithin(figure, 0, FIGURES - 1)) {
            return NO_SUCH;
        }
        shelf.holdKind(k, figure);
        return 0;
    }

    public int row(int d, int sort, int n) {
        Shelf shelf = shelfOrNull(d);
        if (shelf == null || !isWithin(sort, 0, SORTS - 1) || n > MOST_ELEMENTS) {
            return NO_SUCH;
        }
        if (n < 0) {
            return SIZE_BELOW_0;
        }
        shelf.holdRow(sort, n);
        return 0;
    }

    public int put(int d, int i, int v) {
        Shelf shelf = shelfOrNull(d);
        int refusal = refusalUnless(shelf, Shelf.ROW);
        if (shelf == null || refusal != 0) {
            return refusal;
        }
        if (!shelf.hasPlace(i)) {
            return NO_PLACE;
        }
        shelf.set(i, v);
        return 0;
    }

    public long element(int d, int i) throws IllegalArgumentException, IllegalStateException {
        Shelf shelf = shelfOrNull(d);
        if (shelf == null) {
            throw new IllegalArgumentException("no such shelf");
        }
        if (shelf.held != Shelf.ROW || !shelf.hasPlace(i)) {
            throw new IllegalStateException("no row, or no such place in it");
        }
        return shelf.elements[i];
    }

    public int copy(int d, int i, int e, int j, int n) {
        Shelf from = shelfOrNull(d);
        Shelf to = shelfOrNull(e);
        if (from == null || to == null) {
            return NO_SUCH;
        }
        if (from.held == Shelf.NOTHING || to.held == Shelf.NOTHING) {
            return NOTHING_HELD;
        }
        if (from.held != Shelf.ROW || to.held != Shelf.ROW || from.sort != to.sort) {
            return OTHER_KIND;
        }
        if (n < 0 || !from.hasStretch(i, n) || !to.hasStretch(j, n)) {
            return NO_PLACE;
        }
        System.arraycopy(from.elements, i, to.elements, j, n);
        return n;
    }

    public int cost(int d) {
        Shelf shelf = shelfOrNull(d);
        int refusal = refusalUnless(shelf, Shelf.KIND);
        if (shelf == null || refusal != 0) {
            return refusal;
        }
        return Kind.costOf(shelf.kind, shelf.figure);
    }

    public int toss(int d) {
        Shelf shelf = shelfOrNull(d);
        int refusal = refusalUnless(shelf, Shelf.KIND);
        if (shelf == null || refusal != 0) {
            return refusal;
        }
        if (!Kind.hasFailure(shelf.kind, shelf.figure)) {
            return NO_FAILURE;
        }
        return Kind.failureOf(shelf.kind, shelf.figure);
    }

    // ---- what the calls have in common

    private static boolean isWithin(int v, int least, int greatest) {
        return v >= least && v <= greatest;
    }

    private static boolean isDip(int dip) {
        return isWithin(dip, 0, DIPS - 1);
    }

    private static boolean isDaysOn(int n) {
        return isWithin(n, 0, MOST_DAYS_ON);
    }

    private static boolean hasBit(int bits, int bit) {
        return (bits >> bit & 1) == 1;
    }

    private boolean isCorporal(int c) {
        return isWithin(c, 0, now.corporals - 1);
    }

    private Shelf shelfOrNull(int d) {
        return isWithin(d, 0, SHELVES - 1) ? shelves[d] : null;
    }

    /** 0 if the shelf holds what is wanted. */
    private static int refusalUnless(Shelf shelf, int wanted) {
        if (shelf == null) {
            return NO_SUCH;
        }
        if (shelf.held == Shelf.NOTHING) {
            return NOTHING_HELD;
        }
        return shelf.held == wanted ? 0 : OTHER_KIND;
    }

    private void lookOn(int n) {
        mind.becomes(now);
        mind.passDays(n);
    }

    private int leastInReach(int dip, int paired) {
        int found = NONE;
        int least = DIPS;
        for (int c = 0; c < now.corporals; c++) {
            boolean free = now.way[c] == 1 && !hasBit(paired, c);
            if (free && Math.abs(now.at[c] - dip) <= PAIR_REACH && now.at[c] < least) {
                least = now.at[c];
                found = c;
            }
        }
        return found;
    }

    private boolean isDoneAsTold(Shelf told, int days, int dip, int grains) {
        mind.becomes(now);
        mind.grains[dip] = grains;
        for (int n = 0; n < days; n++) {
            if (!told.allows(n, mind.done[dip])) {
                return false;
            }
            mind.passDay();
        }
        return true;
    }

    private boolean isBookInMindAsTold(Shelf told, int days, int c) {
        for (int n = 0; n < days; n++) {
            if (!told.allows(n, mind.book[c])) {
                return false;
            }
            mind.passDay();
        }
        return true;
    }

    /** The pair: its bit of 2 is set if the one counts, its bit of 1 if the other one does. */
    private void playTwo(int a, int b, int pair) {
        boolean oneCounts = (pair & 2) != 0;
        boolean otherCounts = (pair & 1) != 0;
        mind.becomes(now);
        mind.resting &= ~(1 << a | 1 << b);
        mind.writing = (oneCounts ? 0 : 1 << a) | (otherCounts ? 0 : 1 << b);
        mind.passDays(DAYS_OF_TWO);
        int fineOfOne = !oneCounts && otherCounts ? FINE_FOR_WRITING : 0;
        int fineOfOther = !otherCounts && oneCounts ? FINE_FOR_WRITING : 0;
        gainsOfOne[pair] = mind.book[a] - now.book[a] - fineOfOne;
        gainsOfOther[pair] = mind.book[b] - now.book[b] - fineOfOther;
    }

    /** Part 0 is what stands above the line, 1 what stands below it; below is above 0. */
    private static long partInLeastTerms(long above, long below, int part) {
        long divisor = below;
        long rest = above;
        for (int i = 0; i < 100 && rest != 0; i++) {
            long next = divisor % rest;
            divisor = rest;
            rest = next;
        }
        if (divisor == 0) {
            return 0;
        }
        return (part == 0 ? above : below) / divisor;
    }

    private static int nextSeed(int seed) {
        return seed * 1103515245 + 12345;
    }

    private static int drawBelow(int seed, int bound) {
        return bound <= 0 ? 0 : (seed & 0x7FFFFFFF) / 65536 % bound;
    }

    /** Dips, corporals, wind and day, as they are now, in mind or in the image. */
    private static final class Desert {
        private static final int FIRST_GRAINS = 100;
        private static final int WRITTEN_A_DAY = 15;

        final int[] grains = new int[DIPS];
        final int[] done = new int[DIPS];
        final int[] kind = new int[CORPORALS];
        final int[] figure = new int[CORPORALS];
        final int[] at = new int[CORPORALS];
        final int[] way = new int[CORPORALS];
        final int[] book = new int[CORPORALS];
        int corporals = 0;
        int resting = 0;
        /** Those who write in their books and count nothing. */
        int writing = 0;
        int wind = 0;
        int day = 0;
        /** Grains that were done when they were blown on, since this one became as another. */
        int blownOnDone = 0;

        Desert() {
            Arrays.fill(grains, FIRST_GRAINS);
        }

        void becomes(Desert other) {
            System.arraycopy(other.grains, 0, grains, 0, DIPS);
            System.arraycopy(other.done, 0, done, 0, DIPS);
            System.arraycopy(other.kind, 0, kind, 0, CORPORALS);
            System.arraycopy(other.figure, 0, figure, 0, CORPORALS);
            System.arraycopy(other.at, 0, at, 0, CORPORALS);
            System.arraycopy(other.way, 0, way, 0, CORPORALS);
            System.arraycopy(other.book, 0, book, 0, CORPORALS);
            corporals = other.corporals;
            resting = other.resting;
            writing = 0;
            wind = other.wind;
            day = other.day;
            blownOnDone = 0;
        }

        boolean hasRoom() {
            return corporals < CORPORALS;
        }

        void takesIn(int newKind, int newFigure, int dip, int newWay) {
            if (!hasRoom()) {
                return;
            }
            kind[corporals] = newKind;
            figure[corporals] = newFigure;
            at[corporals] = dip;
            way[corporals] = newWay;
            book[corporals] = 0;
            corporals++;
        }

        void refill(int dip, int v) {
            grains[dip] = v;
            done[dip] = 0;
        }

        void turnRest(int c) {
            resting ^= 1 << c;
        }

        void setBack() {
            Arrays.fill(done, 0);
            Arrays.fill(book, 0);
        }

        /** What is not done. */
        int leftIn(int dip) {
            return grains[dip] - done[dip];
        }

        boolean isDone(int dip) {
            return done[dip] == grains[dip];
        }

        int doneDips() {
            int bits = 0;
            for (int dip = 0; dip < DIPS; dip++) {
                bits |= isDone(dip) ? 1 << dip : 0;
            }
            return bits;
        }

        int whoIsAt(int dip) {
            int bits = 0;
            for (int c = 0; c < corporals; c++) {
                bits |= at[c] == dip ? 1 << c : 0;
            }
            return bits;
        }

        int allGrains() {
            int all = 0;
            for (int dip = 0; dip < DIPS; dip++) {
                all += grains[dip];
            }
            return all;
        }

        int allDone() {
            int all = 0;
            for (int dip = 0; dip < DIPS; dip++) {
                all += done[dip];
            }
            return all;
        }

        int allBooks() {
            int all = 0;
            for (int c = 0; c < corporals; c++) {
                all += book[c];
            }
            return all;
        }

        void passDays(int n) {
            for (int i = 0; i < n; i++) {
                passDay();
            }
        }

        void passDay() {
            day++;
            for (int c = 0; c < corporals; c++) {
                if (hasBit(writing, c)) {
                    write(c, WRITTEN_A_DAY);
                } else if (!hasBit(resting, c)) {
                    work(c);
                }
            }
            if (wind > 0) {
                for (int dip = DIPS - 2; dip >= 0; dip--) {
                    give(dip, dip + 1, wind);
                }
            } else if (wind < 0) {
                for (int dip = 1; dip < DIPS; dip++) {
                    give(dip, dip - 1, -wind);
                }
            }
        }

        private void work(int c) {
            int dip = at[c];
            int counted = Kind.counts(kind[c], figure[c], leftIn(dip), day);
            done[dip] += counted;
            write(c, Kind.books(kind[c], figure[c], counted));
            int next = way[c] == 0 ? dip + 1 : dip - 1;
            if (isDone(dip) && isDip(next) && !isBarred(next, way[c])) {
                at[c] = next;
            }
        }

        private void write(int c, int more) {
            book[c] = Math.min(MOST_IN_BOOK, book[c] + more);
        }

        private boolean isBarred(int dip, int forWay) {
            for (int c = 0; c < corporals; c++) {
                if (at[c] == dip && way[c] != forWay) {
                    return true;
                }
            }
            return false;
        }

        private void give(int from, int to, int most) {
            int given = Math.min(most, Math.min(grains[from], MOST_GRAINS - grains[to]));
            int givenDone = Math.max(0, given - leftIn(from));
            grains[from] -= given;
            done[from] -= givenDone;
            grains[to] += given;
            blownOnDone += givenDone;
        }
    }

    /** What the kinds of corporals do, each by what the one it is under does; kind 0 does what none else changes. */
    private static final class Kind {
        private static final int HONEST = 1;
        private static final int GUESSER = 2;
        private static final int SLOW = 3;
        private static final int SAINT = 4;
        private static final int STAFF = 5;
        private static final int SLEEPER = 6;
        private static final int RECRUIT = 7;

        private Kind() {
        }

        static int counts(int kind, int figure, int left, int day) {
            int ofCorporal = 10 + figure;
            int ofHonest = ofCorporal - 1;
            int ofGuesser = (left + 1) / 2;
            int ofSlow = ofCorporal / 2;
            int tries;
            switch (kind) {
                case HONEST:
                    tries = ofHonest;
                    break;
                case GUESSER:
                    tries = ofGuesser;
                    break;
                case SLOW:
                    tries = ofSlow;
                    break;
                case SAINT:
                    tries = ofHonest / 2 + 1;
                    break;
                case STAFF:
                    tries = Math.max(20, ofGuesser);
                    break;
                case SLEEPER:
                    tries = day % 2 == 0 ? ofSlow : 0;
                    break;
                case RECRUIT:
                    tries = figure + 1;
                    break;
                default:
                    tries = ofCorporal;
                    break;
            }
            return Math.min(left, tries);
        }

        static int books(int kind, int figure, int counted) {
            switch (kind) {
                case GUESSER:
                    return counted > 0 ? counted + figure : 0;
                case STAFF:
                    return 2 * counted;
                case SLEEPER:
                    return Math.max(0, counted - 1);
                default:
                    return counted;
            }
        }

        static int costOf(int kind, int figure) {
            int ofCorporal = 4;
            int ofGuesser = 2;
            int ofSlow = ofCorporal - 1;
            switch (kind) {
                case HONEST:
                    return ofCorporal + figure;
                case GUESSER:
                    return ofGuesser;
                case SLOW:
                    return ofSlow;
                case SAINT:
                    return 0;
                case STAFF:
                    return ofGuesser + figure;
                case SLEEPER:
                    return ofSlow / 2;
                default:
                    return ofCorporal;
            }
        }

        static boolean hasFailure(int kind, int figure) {
            return figure != 0 && kind != SLOW && kind != SLEEPER;
        }

        static int failureOf(int kind, int figure) {
            switch (kind) {
                case GUESSER:
                    return 100 + figure;
                case STAFF:
                    return 200 + costOf(kind, figure);
                default:
                    return figure;
            }
        }
    }

    /** Holds nothing, a kind of corporal or a row; the row's elements are made once and used again. */
    private static final class Shelf {
        static final int NOTHING = 0;
        static final int KIND = 1;
        static final int ROW = 2;
        static final int BYTES = 0;
        static final int SHORTS = 1;

        final int[] elements = new int[MOST_ELEMENTS];
        int held = NOTHING;
        int kind = 0;
        int figure = 0;
        int sort = BYTES;
        int size = 0;

        void holdNothing() {
            held = NOTHING;
        }

        void holdKind(int newKind, int newFigure) {
            held = KIND;
            kind = newKind;
            figure = newFigure;
        }

        void holdRow(int newSort, int newSize) {
            held = ROW;
            sort = newSort;
            size = newSize;
            Arrays.fill(elements, 0);
        }

        boolean hasPlace(int i) {
            return isWithin(i, 0, size - 1);
        }

        /** Written so that no sum of the two can pass what an int holds. */
        boolean hasStretch(int from, int length) {
            return from >= 0 && length <= size && from <= size - length;
        }

        void set(int i, int v) {
            elements[i] = sort == BYTES ? (byte) v : sort == SHORTS ? (short) v : v;
        }

        private int leastNumber() {
            return sort == BYTES ? -128 : sort == SHORTS ? -32768 : -2147483648;
        }

        private boolean isSkipped(int i) {
            return elements[i] == leastNumber();
        }

        boolean allows(int i, int v) {
            return isSkipped(i) || elements[i] == v;
        }

        /** What is skipped at the row's end need not be looked at. */
        int behindLastTold() {
            int end = size;
            while (end > 0 && isSkipped(end - 1)) {
                end--;
            }
            return end;
        }
    }

    /** Reads the text of a desert from a row of bytes. */
    private static final class Text {
        private static final int END = -1;

        private Text() {
        }

        /** The first byte with which no desert can go on; -1 if the form is good. */
        static int placeOfBadForm(Shelf text) {
            int place = 0;
            do {
                int digits = digitsBehind(byteAt(text, place));
                if (digits < 0) {
                    return place;
                }
                int end = place + digits + 1;
                for (int i = place + 1; i < end; i++) {
                    if (!isDigit(byteAt(text, i))) {
                        return i;
                    }
                }
                if (byteAt(text, end) != ';') {
                    return end;
                }
                place += digits + 2;
            } while (place < text.size);
            return -1;
        }

        /** With its letter and the ";" behind it. */
        static int lengthOfStatement(Shelf text, int place) {
            return 2 + digitsBehind(byteAt(text, place));
        }

        /** False, and nothing is done, if the statement is not as it must be. */
        static boolean isDoneOn(Desert desert, Shelf text, int place) {
            int first = digitAt(text, place + 1);
            switch (byteAt(text, place)) {
                case 'c':
                    return comesOn(desert, first, text, place);
                case 'g':
                    desert.refill(first, numberAt(text, place + 2, 3));
                    return true;
                case 'w':
                    desert.wind = first;
                    return true;
                case 'e':
                    desert.wind = -first;
                    return true;
                case 'r':
                    return restsOn(desert, first);
                case 'f':
                    desert.setBack();
                    return true;
                default:
                    return daysPassOn(desert, numberAt(text, place + 1, 2));
            }
        }

        private static boolean comesOn(Desert desert, int kind, Shelf text, int place) {
            int way = digitAt(text, place + 4);
            if (kind >= KINDS || way > 1 || !desert.hasRoom()) {
                return false;
            }
            desert.takesIn(kind, digitAt(text, place + 2), digitAt(text, place + 3), way);
            return true;
        }

        private static boolean restsOn(Desert desert, int c) {
            if (c >= desert.corporals) {
                return false;
            }
            desert.turnRest(c);
            return true;
        }

        private static boolean daysPassOn(Desert desert, int n) {
            if (!isWithin(n, 1, MOST_DAYS_ON) || desert.day + n > LAST_DAY) {
                return false;
            }
            desert.passDays(n);
            return true;
        }

        /** How many digits the statement with this letter has; -1 if there is none. */
        private static int digitsBehind(int letter) {
            switch (letter) {
                case 'c':
                case 'g':
                    return 4;
                case 'd':
                    return 2;
                case 'w':
                case 'e':
                case 'r':
                    return 1;
                case 'f':
                    return 0;
                default:
                    return -1;
            }
        }

        private static boolean isDigit(int sign) {
            return isWithin(sign, '0', '9');
        }

        /** The end reads as a byte that stands in no text. */
        private static int byteAt(Shelf text, int place) {
            return text.hasPlace(place) ? text.elements[place] : END;
        }

        /** 0 where no digit is, so that what is read is always one of 0 to 9. */
        private static int digitAt(Shelf text, int place) {
            int sign = byteAt(text, place);
            return isDigit(sign) ? sign - '0' : 0;
        }

        private static int numberAt(Shelf text, int place, int digits) {
            int number = 0;
            for (int i = 0; i < digits; i++) {
                number = 10 * number + digitAt(text, place + i);
            }
            return number;
        }
    }
}
