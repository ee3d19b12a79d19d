import java.math.BigInteger;
import java.util.ArrayList;
import java.util.List;
import java.util.function.ToIntFunction;
import java.util.regex.Matcher;
import java.util.regex.Pattern;

/**
 * The document once more, written another way than the class: a class for each
 * kind under the one it is under, a new desert for each look ahead, and the
 * plainest search for each answer. ModelTest compares the two.
 */
final class Model {
    private static final long HIGH = 1000000001L;
    private static final Pattern TEXT =
        Pattern.compile("((c[0-9]{4}|g[0-9]{4}|w[0-9]|e[0-9]|r[0-9]|f|d[0-9]{2});)+");

    private Land land = new Land();
    private Land image = null;
    private final Object[] shelves = new Object[8];

    // ---- kinds

    private static class Corporal implements Cloneable {
        int kind;
        int figure;
        int at;
        int way;
        int book;
        boolean rests;
        boolean writesOnly;

        int tries(int left, int day) {
            return 10 + figure;
        }

        int books(int counted) {
            return counted;
        }

        int cost() {
            return 4;
        }

        int failure() {
            return figure == 0 ? -15 : figure;
        }

        int counts(int left, int day) {
            return Math.min(left, tries(left, day));
        }

        Corporal twin() {
            try {
                return (Corporal) clone();
            } catch (CloneNotSupportedException e) {
                throw new IllegalStateException(e);
            }
        }

        static Corporal of(int kind, int figure) {
            Corporal made = switch (kind) {
                case 0 -> new Corporal();
                case 1 -> new Honest();
                case 2 -> new Guesser();
                case 3 -> new Slow();
                case 4 -> new Saint();
                case 5 -> new Staff();
                case 6 -> new Sleeper();
                default -> new Recruit();
            };
            made.kind = kind;
            made.figure = figure;
            return made;
        }

        Corporal as(int otherKind, int otherFigure) {
            Corporal other = of(otherKind, otherFigure);
            other.at = at;
            other.way = way;
            other.book = book;
            other.rests = rests;
            return other;
        }
    }

    private static class Honest extends Corporal {
        @Override int tries(int left, int day) {
            return super.tries(left, day) - 1;
        }

        @Override int cost() {
            return super.cost() + figure;
        }
    }

    private static class Guesser extends Corporal {
        @Override int tries(int left, int day) {
            return left - left / 2;
        }

        @Override int books(int counted) {
            return counted == 0 ? 0 : counted + figure;
        }

        @Override int cost() {
            return 2;
        }

        @Override int failure() {
            return figure == 0 ? -15 : super.failure() + 100;
        }
    }

    private static class Slow extends Corporal {
        @Override int tries(int left, int day) {
            return super.tries(left, day) / 2;
        }

        @Override int cost() {
            return super.cost() - 1;
        }

        @Override int failure() {
            return -15;
        }
    }

    private static class Saint extends Honest {
        @Override int tries(int left, int day) {
            return super.tries(left, day) / 2 + 1;
        }

        @Override int cost() {
            return 0;
        }
    }

    private static class Staff extends Guesser {
        @Override int tries(int left, int day) {
            return Math.max(super.tries(left, day), 20);
        }

        @Override int books(int counted) {
            return counted + counted;
        }

        @Override int cost() {
            return super.cost() + figure;
        }

        @Override int failure() {
            return figure == 0 ? -15 : 200 + cost();
        }
    }

    private static class Sleeper extends Slow {
        @Override int tries(int left, int day) {
            return day % 2 == 1 ? 0 : super.tries(left, day);
        }

        @Override int books(int counted) {
            return counted == 0 ? 0 : super.books(counted) - 1;
        }

        @Override int cost() {
            return super.cost() / 2;
        }
    }

    private static class Recruit extends Corporal {
        @Override int tries(int left, int day) {
            return figure + 1;
        }
    }

    // ---- the desert

    private static final class Land {
        final List<Corporal> corporals = new ArrayList<>();
        int[] grains = {100, 100, 100, 100, 100, 100, 100, 100, 100, 100};
        int[] done = new int[10];
        int wind;
        int day;
        int lost;

        Land twin() {
            Land twin = new Land();
            for (Corporal one : corporals) {
                twin.corporals.add(one.twin());
            }
            twin.grains = grains.clone();
            twin.done = done.clone();
            twin.wind = wind;
            twin.day = day;
            return twin;
        }

        Land on(int days) {
            Land twin = twin();
            for (int i = 0; i < days; i++) {
                twin.day();
            }
            return twin;
        }

        void day() {
            day++;
            for (Corporal one : corporals) {
                if (one.writesOnly) {
                    one.book = Math.min(9999, one.book + 15);
                } else if (!one.rests) {
                    count(one);
                }
            }
            for (int i = 0; i < 9; i++) {
                int from = wind > 0 ? 8 - i : i + 1;
                int to = wind > 0 ? from + 1 : from - 1;
                for (int grain = 0; grain < Math.abs(wind); grain++) {
                    carryOne(from, to);
                }
            }
        }

        private void count(Corporal one) {
            int counted = one.counts(grains[one.at] - done[one.at], day);
            done[one.at] += counted;
            one.book = Math.min(9999, one.book + one.books(counted));
            if (done[one.at] < grains[one.at]) {
                return;
            }
            int next = one.at + (one.way == 0 ? 1 : -1);
            boolean free = next >= 0 && next <= 9;
            for (Corporal other : corporals) {
                free &= other.at != next || other.way == one.way;
            }
            if (free) {
                one.at = next;
            }
        }

        private void carryOne(int from, int to) {
            if (grains[from] == 0 || grains[to] == 999) {
                return;
            }
            if (done[from] == grains[from]) {
                done[from]--;
                lost++;
            }
            grains[from]--;
            grains[to]++;
        }

        int books() {
            return corporals.stream().mapToInt(one -> one.book).sum();
        }

        int grains() {
            return java.util.Arrays.stream(grains).sum();
        }

        int done() {
            return java.util.Arrays.stream(done).sum();
        }

        int doneBits() {
            int bits = 0;
            for (int dip = 0; dip < 10; dip++) {
                bits += done[dip] == grains[dip] ? 1 << dip : 0;
            }
            return bits;
        }

        void flood() {
            done = new int[10];
            corporals.forEach(one -> one.book = 0);
        }
    }

    private static final class Row {
        final int sort;
        final int[] elements;

        Row(int sort, int n) {
            this.sort = sort;
            this.elements = new int[n];
        }

        boolean skips(int i) {
            return elements[i] == new int[] {Byte.MIN_VALUE, Short.MIN_VALUE, Integer.MIN_VALUE}[sort];
        }

        /** The first number that is not as the desert has it on its day; -4. */
        int firstWrong(Land from, ToIntFunction<Land> has) {
            Land on = from.twin();
            for (int i = 0; i < elements.length; i++) {
                if (!skips(i) && has.applyAsInt(on) != elements[i]) {
                    return i;
                }
                on.day();
            }
            return -4;
        }
    }

    // ---- what is asked for

    private static boolean in(int v, int least, int greatest) {
        return least <= v && v <= greatest;
    }

    private boolean who(int c) {
        return in(c, 0, land.corporals.size() - 1);
    }

    private int refused(int d, Class<?> wanted) {
        if (!in(d, 0, 7)) {
            return -1;
        }
        if (shelves[d] == null) {
            return -11;
        }
        return wanted.isInstance(shelves[d]) ? 0 : -12;
    }

    long desert(int d) {
        int refusal = refused(d, Row.class);
        if (refusal != 0) {
            return refusal;
        }
        Row row = (Row) shelves[d];
        if (row.sort != 0) {
            return -12;
        }
        StringBuilder read = new StringBuilder();
        for (int sign : row.elements) {
            read.append((char) (sign & 255));
        }
        String text = read.toString();
        for (int i = 1; i <= text.length(); i++) {
            Matcher start = TEXT.matcher(text.substring(0, i));
            if (!start.matches() && !start.hitEnd()) {
                return -1000 - (i - 1);
            }
        }
        if (!TEXT.matcher(text).matches()) {
            return -1000 - text.length();
        }
        Land tried = land.twin();
        String[] statements = text.split(";");
        int place = 0;
        for (String statement : statements) {
            if (!does(tried, statement)) {
                return -2000 - place;
            }
            place += statement.length() + 1;
        }
        land = tried;
        return statements.length;
    }

    private static boolean does(Land on, String statement) {
        int number = statement.length() > 1 ? Integer.parseInt(statement.substring(1)) : 0;
        switch (statement.charAt(0)) {
            case 'c':
                if (number / 1000 > 7 || number % 10 > 1 || on.corporals.size() == 6) {
                    return false;
                }
                Corporal made = Corporal.of(number / 1000, number / 100 % 10);
                made.at = number / 10 % 10;
                made.way = number % 10;
                return on.corporals.add(made);
            case 'g':
                on.grains[number / 1000] = number % 1000;
                on.done[number / 1000] = 0;
                return true;
            case 'w':
            case 'e':
                on.wind = statement.charAt(0) == 'w' ? number : -number;
                return true;
            case 'r':
                if (number >= on.corporals.size()) {
                    return false;
                }
                on.corporals.get(number).rests = !on.corporals.get(number).rests;
                return true;
            case 'f':
                on.flood();
                return true;
            default:
                if (number == 0 || number > 60 || on.day + number > 999) {
                    return false;
                }
                for (int i = 0; i < number; i++) {
                    on.day();
                }
                return true;
        }
    }

    long corporal(int c, int what) {
        if (!who(c) || !in(what, 0, 6)) {
            return -1;
        }
        Corporal one = land.corporals.get(c);
        int left = land.grains[one.at] - land.done[one.at];
        return new int[] {one.kind, one.figure, one.at, one.way, one.book, one.rests ? 1 : 0,
            one.counts(left, land.day + 1)}[what];
    }

    long dip(int dip, int what) {
        if (!in(dip, 0, 9) || !in(what, 0, 2)) {
            return -1;
        }
        int bits = 0;
        for (int c = 0; c < land.corporals.size(); c++) {
            bits += land.corporals.get(c).at == dip ? 1 << c : 0;
        }
        return new int[] {land.grains[dip], land.done[dip], bits}[what];
    }

    long comes(int d, int dip, int way) {
        if (!in(dip, 0, 9) || !in(way, 0, 1)) {
            return -1;
        }
        int refusal = refused(d, Corporal.class);
        if (refusal != 0) {
            return refusal;
        }
        if (land.corporals.size() == 6) {
            return -2;
        }
        Corporal one = ((Corporal) shelves[d]).twin();
        one.at = dip;
        one.way = way;
        land.corporals.add(one);
        return land.corporals.size() - 1;
    }

    long fills(int dip, int v) {
        if (!in(dip, 0, 9) || !in(v, 0, 999)) {
            return -1;
        }
        int was = land.grains[dip];
        land.grains[dip] = v;
        land.done[dip] = 0;
        return was;
    }

    long blows(int v) {
        if (!in(v, -9, 9)) {
            return HIGH;
        }
        int was = land.wind;
        land.wind = v;
        return was;
    }

    long rests(int c) {
        if (!who(c)) {
            return -1;
        }
        Corporal one = land.corporals.get(c);
        one.rests = !one.rests;
        return one.rests ? 1 : 0;
    }

    long moves(int c, int dip) {
        if (!who(c) || !in(dip, 0, 9)) {
            return -1;
        }
        int was = land.corporals.get(c).at;
        land.corporals.get(c).at = dip;
        return was;
    }

    long flood() {
        int was = land.books();
        land.flood();
        return was;
    }

    long days(int n) {
        if (!in(n, 1, 60)) {
            return -1;
        }
        if (land.day + n > 999) {
            return -3;
        }
        land = land.on(n);
        return land.books();
    }

    long corporalThen(int c, int n, int what) {
        if (!who(c) || !in(n, 0, 60) || !in(what, 0, 1)) {
            return -1;
        }
        Corporal then = land.on(n).corporals.get(c);
        return what == 0 ? then.at : then.book;
    }

    long dipThen(int dip, int n, int what) {
        if (!in(dip, 0, 9) || !in(n, 0, 60) || !in(what, 0, 1)) {
            return -1;
        }
        Land then = land.on(n);
        return what == 0 ? then.grains[dip] : then.done[dip];
    }

    long dipsDone(int n) {
        return in(n, 0, 60) ? land.on(n).doneBits() : -1;
    }

    long ends(int dip) {
        if (!in(dip, -1, 9)) {
            return -1;
        }
        for (int n = 0; n <= 60; n++) {
            int bits = land.on(n).doneBits();
            if (dip == -1 ? bits == 1023 : (bits >> dip) % 2 == 1) {
                return n;
            }
        }
        return -4;
    }

    long meet(int a, int b) {
        if (!who(a) || !who(b) || a == b) {
            return -1;
        }
        for (int n = 0; n <= 60; n++) {
            Land then = land.on(n);
            int apart = then.corporals.get(a).at - then.corporals.get(b).at;
            if (apart >= -1 && apart <= 1) {
                return n;
            }
        }
        return -4;
    }

    long line(int n) {
        if (!in(n, 0, 60)) {
            return -1;
        }
        Land then = land.on(n);
        int greatest = then.corporals.stream().filter(one -> one.way == 0).mapToInt(one -> one.at).max().orElse(0);
        int least = then.corporals.stream().filter(one -> one.way == 1).mapToInt(one -> one.at).min().orElse(9);
        return 10 * greatest + least;
    }

    long treaty(int n) {
        if (!in(n, 0, 60)) {
            return HIGH;
        }
        return land.on(n).corporals.stream().mapToInt(one -> one.way == 0 ? one.book : -one.book).sum();
    }

    /** The place of the greatest number, of several the first. */
    private static int best(int[] numbers) {
        int best = 0;
        for (int i = 0; i < numbers.length; i++) {
            best = numbers[i] > numbers[best] ? i : best;
        }
        return best;
    }

    long bestWind(int n, int what) {
        if (!in(n, 0, 60) || !in(what, 0, 1)) {
            return HIGH;
        }
        int[] books = new int[19];
        for (int i = 0; i < 19; i++) {
            Land other = land.twin();
            other.wind = i - 9;
            books[i] = other.on(n).books();
        }
        return what == 0 ? best(books) - 9 : books[best(books)];
    }

    long send(int c, int n, int what) {
        if (!who(c) || !in(n, 0, 60) || !in(what, 0, 1)) {
            return -1;
        }
        int[] done = new int[10];
        for (int dip = 0; dip < 10; dip++) {
            Land other = land.twin();
            other.corporals.get(c).at = dip;
            done[dip] = Integer.bitCount(other.on(n).doneBits());
        }
        return what == 0 ? best(done) : done[best(done)];
    }

    long idle(int n) {
        if (!in(n, 0, 60)) {
            return -1;
        }
        for (int c = 0; c < land.corporals.size(); c++) {
            Land without = land.twin();
            without.corporals.get(c).rests = true;
            if (without.on(n).books() >= land.on(n).books()) {
                return c;
            }
        }
        return -4;
    }

    long slowest(int n) {
        if (!in(n, 0, 60)) {
            return -1;
        }
        if (land.corporals.isEmpty()) {
            return -4;
        }
        Land then = land.on(n);
        int[] less = new int[land.corporals.size()];
        for (int c = 0; c < less.length; c++) {
            less[c] = land.corporals.get(c).book - then.corporals.get(c).book;
        }
        return best(less);
    }

    long lost(int n) {
        return in(n, 0, 60) ? land.on(n).lost : -1;
    }

    long heap(int n, int what) {
        if (!in(n, 0, 60) || !in(what, 0, 1)) {
            return -1;
        }
        int[] grains = land.on(n).grains;
        return what == 0 ? best(grains) : grains[best(grains)];
    }

    long begin(int c, int n) {
        if (!who(c) || !in(n, 0, 60)) {
            return -1;
        }
        int[] books = new int[20];
        for (int i = 0; i < 20; i++) {
            Land other = land.twin();
            other.corporals.get(c).way = i / 10;
            other.corporals.get(c).at = i % 10;
            books[i] = other.on(n).corporals.get(c).book;
        }
        return best(books);
    }

    long pairs() {
        return mostPairs(0, 0);
    }

    private int mostPairs(int c, int taken) {
        if (c == land.corporals.size()) {
            return 0;
        }
        int most = mostPairs(c + 1, taken);
        Corporal one = land.corporals.get(c);
        for (int o = 0; one.way == 0 && o < land.corporals.size(); o++) {
            Corporal other = land.corporals.get(o);
            if (other.way == 1 && (taken >> o) % 2 == 0 && Math.abs(one.at - other.at) < 4) {
                most = Math.max(most, 1 + mostPairs(c + 1, taken + (1 << o)));
            }
        }
        return most;
    }

    long even(int what) {
        if (!in(what, 0, 1)) {
            return -1;
        }
        int[] nearness = new int[9];
        for (int dip = 0; dip < 9; dip++) {
            int difference = 0;
            for (int other = 0; other < 10; other++) {
                difference += other <= dip ? land.grains[other] : -land.grains[other];
            }
            nearness[dip] = -Math.abs(difference);
        }
        return what == 0 ? best(nearness) : -nearness[best(nearness)];
    }

    long howMany(int d, int dip, int what) {
        if (!in(dip, 0, 9) || !in(what, 0, 2)) {
            return -1;
        }
        int refusal = refused(d, Row.class);
        if (refusal != 0) {
            return refusal;
        }
        List<Integer> could = new ArrayList<>();
        for (int grains = land.done[dip]; grains <= 999; grains++) {
            Land other = land.twin();
            other.grains[dip] = grains;
            if (((Row) shelves[d]).firstWrong(other, on -> on.done[dip]) == -4) {
                could.add(grains);
            }
        }
        if (what == 0) {
            return could.size();
        }
        return could.isEmpty() ? -4 : could.get(what == 1 ? 0 : could.size() - 1);
    }

    long whatIs(int d, int c, int what) {
        if (!who(c) || !in(what, 0, 1)) {
            return -1;
        }
        int refusal = refused(d, Row.class);
        if (refusal != 0) {
            return refusal;
        }
        int bits = 0;
        for (int i = 0; i < (what == 0 ? 8 : 10); i++) {
            Land other = land.twin();
            Corporal he = other.corporals.get(c);
            other.corporals.set(c, what == 0 ? he.as(i, he.figure) : he.as(he.kind, i));
            if (((Row) shelves[d]).firstWrong(other, on -> on.corporals.get(c).book) == -4) {
                bits |= 1 << i;
            }
        }
        return bits;
    }

    /** What one has more behind 5 days, of himself and another one. */
    private int gain(int self, int other, boolean selfCounts, boolean otherCounts) {
        Land both = land.twin();
        both.corporals.get(self).rests = false;
        both.corporals.get(other).rests = false;
        both.corporals.get(self).writesOnly = !selfCounts;
        both.corporals.get(other).writesOnly = !otherCounts;
        int more = both.on(5).corporals.get(self).book - land.corporals.get(self).book;
        return !selfCounts && otherCounts ? more - 20 : more;
    }

    long two(int a, int b) {
        if (!who(a) || !who(b) || a == b) {
            return -1;
        }
        for (int pair : new int[] {0, 1, 10, 11}) {
            boolean one = pair / 10 == 1;
            boolean other = pair % 10 == 1;
            if (gain(a, b, !one, other) <= gain(a, b, one, other) && gain(b, a, !other, one) <= gain(b, a, other, one)) {
                return pair;
            }
        }
        return -4;
    }

    private static BigInteger ways(Land from, int wind, int dip, int n, int t) {
        if (n == 0) {
            return BigInteger.valueOf((from.doneBits() >> dip) % 2);
        }
        Land storm = from.twin();
        storm.wind = 9;
        storm.day();
        Land calm = from.twin();
        calm.wind = wind;
        calm.day();
        return ways(storm, wind, dip, n - 1, t)
            .add(ways(calm, wind, dip, n - 1, t).multiply(BigInteger.valueOf(t - 1)));
    }

    private static long part(BigInteger above, BigInteger below, int part) {
        return (part == 0 ? above : below).divide(above.gcd(below)).longValueExact();
    }

    long storm(int dip, int n, int t, int part) {
        if (!in(dip, 0, 9) || !in(n, 0, 7) || !in(t, 2, 20) || !in(part, 0, 1)) {
            return HIGH;
        }
        return part(ways(land, land.wind, dip, n, t), BigInteger.valueOf(t).pow(n), part);
    }

    long mean(int part) {
        return in(part, 0, 1) ? part(BigInteger.valueOf(land.grains()), BigInteger.TEN, part) : HIGH;
    }

    long forged(int d) {
        int refusal = refused(d, Row.class);
        if (refusal != 0) {
            return refusal;
        }
        int[] told = ((Row) shelves[d]).elements;
        for (int dip = 0; dip < told.length; dip++) {
            if (dip == 10 || told[dip] < 0 || told[dip] > land.grains[dip]) {
                return dip;
            }
        }
        return -4;
    }

    long judge(int d) {
        int refusal = refused(d, Row.class);
        return refusal != 0 ? refusal : ((Row) shelves[d]).firstWrong(land, Land::books);
    }

    long deserts(int n, int z, int what) {
        if (!in(n, 1, 20) || !in(what, 0, 1)) {
            return -1;
        }
        int done = 0;
        int more = 0;
        long seed = z & 0xFFFFFFFFL;
        for (int i = 0; i < n; i++) {
            Land other = land.twin();
            for (int dip = 0; dip < 10; dip++) {
                seed = (seed * 1103515245L + 12345L) % 4294967296L;
                other.grains[dip] = (int) (seed % 2147483648L / 65536 % 200);
                other.done[dip] = 0;
            }
            Land then = other.on(10);
            done += Integer.bitCount(then.doneBits());
            more += then.books() - land.books();
        }
        return what == 0 ? done : more;
    }

    long image() {
        image = land.twin();
        return land.day;
    }

    long restore() {
        if (image == null) {
            return -3;
        }
        land = image.twin();
        return land.day;
    }

    long count(int what) {
        int resting = 0;
        for (int c = 0; c < land.corporals.size(); c++) {
            resting += land.corporals.get(c).rests ? 1 << c : 0;
        }
        return !in(what, 0, 6) ? -1 : new int[] {land.corporals.size(), land.day, land.grains(), land.done(),
            land.books(), resting, land.wind + 9}[what];
    }

    long keep(int d, int what, int k, int figure) {
        if (!in(d, 0, 7) || !in(what, 0, 1) || what == 1 && (!in(k, 0, 7) || !in(figure, 0, 9))) {
            return -1;
        }
        shelves[d] = what == 0 ? null : Corporal.of(k, figure);
        return 0;
    }

    long row(int d, int sort, int n) {
        if (!in(d, 0, 7) || !in(sort, 0, 2) || n > 100) {
            return -1;
        }
        if (n < 0) {
            return -14;
        }
        shelves[d] = new Row(sort, n);
        return 0;
    }

    long put(int d, int i, int v) {
        int refusal = refused(d, Row.class);
        if (refusal != 0) {
            return refusal;
        }
        Row row = (Row) shelves[d];
        if (!in(i, 0, row.elements.length - 1)) {
            return -13;
        }
        row.elements[i] = new int[] {(byte) v, (short) v, v}[row.sort];
        return 0;
    }

    long element(int d, int i) {
        if (!in(d, 0, 7)) {
            throw new IllegalArgumentException();
        }
        if (!(shelves[d] instanceof Row row) || !in(i, 0, row.elements.length - 1)) {
            throw new IllegalStateException();
        }
        return row.elements[i];
    }

    long copy(int d, int i, int e, int j, int n) {
        if (!in(d, 0, 7) || !in(e, 0, 7)) {
            return -1;
        }
        if (shelves[d] == null || shelves[e] == null) {
            return -11;
        }
        if (!(shelves[d] instanceof Row from) || !(shelves[e] instanceof Row to) || from.sort != to.sort) {
            return -12;
        }
        long n0 = n;
        if (n < 0 || i < 0 || j < 0 || i + n0 > from.elements.length || j + n0 > to.elements.length) {
            return -13;
        }
        int[] between = java.util.Arrays.copyOfRange(from.elements, i, i + n);
        for (int k = 0; k < n; k++) {
            to.elements[j + k] = between[k];
        }
        return n;
    }

    long cost(int d) {
        int refusal = refused(d, Corporal.class);
        return refusal != 0 ? refusal : ((Corporal) shelves[d]).cost();
    }

    long toss(int d) {
        int refusal = refused(d, Corporal.class);
        return refusal != 0 ? refusal : ((Corporal) shelves[d]).failure();
    }
}
