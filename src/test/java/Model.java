import java.util.ArrayList;
import java.util.List;
import java.util.regex.Matcher;
import java.util.regex.Pattern;

/**
 * The document told a second time, as plainly as can be and without a thought for speed:
 * whole copies of the net, every PLAN from its beginning, conditions as functions.
 */
final class Model {
    static final class One implements Cloneable {
        int kind, depth, wish, home, at;
        boolean out;

        One twin() {
            try {
                return (One) clone();
            } catch (CloneNotSupportedException e) {
                throw new IllegalStateException(e);
            }
        }

        boolean is(String name) {
            switch (name) {
                case "rider": return true;
                case "regular": return kind == 1;
                case "lady": return kind == 2 || kind == 3;
                case "father": return kind == 3;
                case "clerk": return kind == 4 || kind == 5;
                case "barrier": return kind == 5;
                default: throw new IllegalStateException(name);
            }
        }
    }

    interface Fact { int of(Net net, int k); }

    interface Condition { boolean holds(Net net, int k); }

    record Rule(String kind, Condition condition, int deed) { }

    static final class Net {
        List<One> riders = new ArrayList<>();
        int train = 0, end = 12, score = 0, z = 1;
        int[] crowds = {5, 5, 5, 5, 5, 5, 5, 5, 5, 5, 5, 5, 5, 5, 5, 5};
        int[] gardens = new int[6], posters = new int[6];
        List<Rule> rules = List.of();
        List<int[]> reports = new ArrayList<>();

        Net copy() {
            Net net = new Net();
            for (One one : riders) net.riders.add(one.twin());
            net.train = train;
            net.end = end;
            net.score = score;
            net.z = z;
            net.crowds = crowds.clone();
            net.gardens = gardens.clone();
            net.posters = posters.clone();
            net.rules = rules;
            net.reports = new ArrayList<>(reports);
            return net;
        }

        int rush() { return train > 15 ? 0 : crowds[train] / 4; }

        int lamps() { return train > 15 ? 0 : crowds[train] % 4; }

        boolean over() { return train >= end; }

        int outs() {
            int set = 0;
            for (int k = 0; k < riders.size(); k++) if (riders.get(k).out) set += 1 << k;
            return set;
        }

        int sinks(int k) {
            One it = riders.get(k);
            int others = 0;
            for (One one : riders) if (one != it && !one.out && one.at == it.at) others++;
            return sinks(it.kind, rush(), lamps(), others);
        }

        static int sinks(int kind, int rush, int lamps, int others) {
            switch (kind) {
                case 1: return lamps != 0 ? 0 : 1;
                case 2: return (rush + others) * 2;
                case 3: return (rush + others) * 2 + 3;
                case 4: return rush + others > lamps ? rush + others - lamps : 0;
                case 5: return (rush + others > lamps ? rush + others - lamps : 0) / 2;
                default: throw new IllegalStateException();
            }
        }

        static int drifts(int kind, int train) {
            boolean odd = (train & 1) == 1;
            switch (kind) {
                case 1: return 1;
                case 2: return odd ? 1 : 0;
                case 3: return odd ? 2 : 0;
                case 4: return odd ? 0 : 1;
                case 5: return (odd ? 0 : 1) + (train > 7 ? 2 : 0);
                default: throw new IllegalStateException();
            }
        }

        int pays(int k) {
            One it = riders.get(k);
            if (it.out) return 0;
            int sum = it.wish + gardens[it.at] + (it.at == it.home ? 9 : 2);
            sum -= it.depth / 7;
            return sum < 0 ? 0 : sum;
        }

        int will(int k) {
            for (Rule rule : rules) if (riders.get(k).is(rule.kind) && rule.condition.holds(this, k)) return rule.deed;
            return 0;
        }

        boolean may(int k) { return will(k) == 0 && pays(k) > 0; }

        int leastThatMay() {
            for (int k = 0; k < riders.size(); k++) if (may(k)) return k + 1;
            return 0;
        }

        int go(int act) {
            int worth = 0;
            if (act > 0 && !riders.get(act - 1).out) {
                One it = riders.get(act - 1);
                int will = will(act - 1);
                if (will == 0) {
                    worth = pays(act - 1);
                    if (worth > 0) it.out = true;
                } else if (will == 1) {
                    it.at = it.at == 5 ? 0 : it.at + 1;
                    it.depth = Math.max(it.depth - posters[it.at], 0);
                    if (lamps() > 0) worth = 1;
                }
            }
            int[] sinks = new int[riders.size()];
            for (int k = 0; k < sinks.length; k++) sinks[k] = sinks(k);
            for (int k = 0; k < sinks.length; k++) {
                One it = riders.get(k);
                if (it.out) continue;
                it.depth = Math.min(99, it.depth + sinks[k]);
                it.at = (it.at + drifts(it.kind, train)) % 6;
                if (it.at == it.home) worth++;
            }
            train++;
            score += worth;
            return worth;
        }

        int rest(int n) {
            int worth = 0;
            for (int i = 0; i < n && !over(); i++) worth += go(leastThatMay());
            return worth;
        }
    }

    Net net = new Net();
    Net kept = null;
    List<Byte> tape = new ArrayList<>();
    List<int[]> rows = new ArrayList<>();
    Object[] sheets = new Object[4];
    Object[] shelves = new Object[4];
    List<Integer> trace = new ArrayList<>();

    private static boolean in(int v, int least, int most) { return least <= v && v <= most; }

    private boolean is(int k) { return in(k, 0, net.riders.size() - 1); }

    int rider(int kind, int depth, int wish, int home) {
        if (!in(kind, 1, 5) || !in(depth, 0, 99) || !in(wish, 0, 9) || !in(home, 0, 5)) return -1;
        if (net.riders.size() == 6) return -2;
        One one = new One();
        one.kind = kind;
        one.depth = depth;
        one.wish = wish;
        one.home = one.at = home;
        net.riders.add(one);
        return net.riders.size() - 1;
    }

    int riderOf(int k, int what) {
        if (!is(k) || !in(what, 0, 10)) return -1;
        One one = net.riders.get(k);
        int[] all = {one.kind, one.depth, one.wish, one.home, one.out ? 1 : 0, one.at, net.sinks(k),
            Net.drifts(one.kind, net.train), net.pays(k), net.may(k) ? 1 : 0, net.will(k)};
        return all[what];
    }

    int change(int k, int what, int v) {
        int[] most = {-1, 99, 9, 5, 1, 5};
        if (!is(k) || !in(what, 1, 5) || !in(v, 0, most[what])) return -1;
        int was = riderOf(k, what);
        One one = net.riders.get(k);
        if (what == 1) one.depth = v;
        if (what == 2) one.wish = v;
        if (what == 3) one.home = v;
        if (what == 4) one.out = v == 1;
        if (what == 5) one.at = v;
        return was;
    }

    int remake(int k, int kind) {
        if (!is(k) || !in(kind, 1, 5)) return -1;
        int was = net.riders.get(k).kind;
        net.riders.get(k).kind = kind;
        return was;
    }

    int crowd(int train, int v) {
        if (!in(train, 0, 15) || !in(v, 0, 15)) return -1;
        int was = net.crowds[train];
        net.crowds[train] = v;
        return was;
    }

    int home(int f, int what, int v) {
        if (!in(f, 0, 5) || !in(what, 0, 1) || !in(v, 0, 9)) return -1;
        int[] row = what == 0 ? net.gardens : net.posters;
        int was = row[f];
        row[f] = v;
        return was;
    }

    int homeOf(int f, int what) {
        if (!in(f, 0, 5) || !in(what, 0, 1)) return -1;
        return (what == 0 ? net.gardens : net.posters)[f];
    }

    int ends(int v) {
        if (!in(v, 1, 16)) return -1;
        if (v < net.train) return -4;
        int was = net.end;
        net.end = v;
        return was;
    }

    int anew() {
        int was = net.train;
        net.train = net.score = 0;
        for (One one : net.riders) {
            one.out = false;
            one.at = one.home;
        }
        return was;
    }

    int state(int what) {
        int homes = 0;
        for (int k = 0; k < net.riders.size(); k++) if (net.riders.get(k).at == net.riders.get(k).home) homes += 1 << k;
        int[] all = {net.train, net.end, net.score, net.over() ? 1 : 0, net.outs(), 4 * net.rush() + net.lamps(), homes};
        return in(what, 0, 6) ? all[what] : -1;
    }

    int feed(long eight, int n) {
        if (!in(n, 1, 8)) return -1;
        if (tape.size() + n > 200) return -2;
        for (int i = 0; i < n; i++, eight >>= 8) tape.add((byte) (eight & 255));
        return tape.size();
    }

    int rules() {
        StringBuilder text = new StringBuilder();
        for (byte b : tape) text.append((char) (b & 255));
        tape.clear();
        Reader reader = new Reader(text.toString());
        try {
            net.rules = reader.text();
            return net.rules.size();
        } catch (Fault fault) {
            return -100 - fault.place;
        }
    }

    static final class Fault extends Exception {
        private static final long serialVersionUID = 1;
        final int place;

        Fault(int place) { this.place = place; }
    }

    static final class Reader {
        final List<String> words = new ArrayList<>();
        final List<Integer> places = new ArrayList<>();
        int next = 0;

        Reader(String text) {
            Matcher matcher = Pattern.compile("[a-z]+|[0-9]+|[^ ]", Pattern.DOTALL).matcher(text);
            while (matcher.find()) {
                words.add(matcher.group());
                places.add(matcher.start());
            }
            words.add("");
            places.add(text.length());
        }

        Fault fault() { return new Fault(places.get(next)); }

        String word() { return words.get(next); }

        boolean took(String word) {
            if (!word().equals(word)) return false;
            next++;
            return true;
        }

        String take(String pattern) throws Fault {
            if (!word().matches(pattern)) throw fault();
            return words.get(next++);
        }

        List<Rule> text() throws Fault {
            List<Rule> rules = new ArrayList<>();
            while (!word().isEmpty()) {
                if (rules.size() == 8) throw fault();
                String kind = take("rider|regular|lady|father|clerk|barrier");
                Condition condition = took("if") ? any(0) : (net, k) -> true;
                int deed = List.of("exit", "ride", "stay").indexOf(take("exit|ride|stay"));
                take(";");
                rules.add(new Rule(kind, condition, deed));
            }
            return rules;
        }

        Condition any(int open) throws Fault {
            Condition left = all(open);
            while (took("or")) {
                Condition one = left, other = all(open);
                left = (net, k) -> one.holds(net, k) || other.holds(net, k);
            }
            return left;
        }

        Condition all(int open) throws Fault {
            Condition left = one(open);
            while (took("and")) {
                Condition one = left, other = one(open);
                left = (net, k) -> one.holds(net, k) && other.holds(net, k);
            }
            return left;
        }

        Condition one(int open) throws Fault {
            if (took("not")) {
                Condition one = one(open);
                return (net, k) -> !one.holds(net, k);
            }
            if (word().equals("(")) {
                if (open == 3) throw fault();
                next++;
                Condition inner = any(open + 1);
                take("\\)");
                return inner;
            }
            Fact left = value();
            String sign = take("[<=>]");
            Fact right = value();
            return (net, k) -> {
                int order = Integer.compare(left.of(net, k), right.of(net, k));
                return order == "<=>".indexOf(sign) - 1;
            };
        }

        Fact value() throws Fault {
            String word = take("[0-9]{1,4}|train|depth|wish|rush|number");
            switch (word) {
                case "train": return (net, k) -> net.train;
                case "depth": return (net, k) -> net.riders.get(k).depth;
                case "wish": return (net, k) -> net.riders.get(k).wish;
                case "rush": return (net, k) -> net.rush();
                case "number": return (net, k) -> k;
                default: return (net, k) -> Integer.parseInt(word);
            }
        }
    }

    int train() { return net.over() ? -4 : net.go(net.leastThatMay()); }

    int on(int n) { return in(n, 0, 16) ? net.copy().rest(n) : -1; }

    int when(int k) {
        if (!is(k)) return -1;
        if (net.riders.get(k).out) return -3;
        for (int n = 1; n <= net.end - net.train; n++) {
            Net copy = net.copy();
            copy.rest(n);
            if (copy.riders.get(k).out) return net.train + n - 1;
        }
        return -3;
    }

    int wishFor(int k) {
        if (!is(k)) return -1;
        int[] worths = new int[10];
        for (int wish = 0; wish < 10; wish++) {
            Net copy = net.copy();
            copy.riders.get(k).wish = wish;
            worths[wish] = copy.rest(99);
        }
        return leastOfMost(worths);
    }

    int homeFor(int k) {
        if (!is(k)) return -1;
        int[] worths = new int[6];
        for (int home = 0; home < 6; home++) {
            Net copy = net.copy();
            copy.riders.get(k).home = home;
            worths[home] = copy.rest(99);
        }
        return leastOfMost(worths);
    }

    private static int leastOfMost(int[] worths) {
        int best = worths.length - 1;
        for (int i = worths.length - 1; i >= 0; i--) if (worths[i] >= worths[best]) best = i;
        return best;
    }

    int lost(int k) {
        if (!is(k)) return -1;
        for (int train = net.train; train <= Math.max(net.end, net.train); train++) {
            Net copy = net.copy();
            copy.rest(train - net.train);
            if (copy.riders.get(k).depth >= 50) return train;
        }
        return -3;
    }

    int reach(int k, int f) {
        if (!is(k) || !in(f, 0, 5)) return -1;
        for (int n = 0; n <= 16; n++) if (reaches(net.riders.get(k).kind, net.riders.get(k).at, net.train, n, f)) return n;
        return -3;
    }

    private static boolean reaches(int kind, int at, int train, int n, int f) {
        if (n == 0) return at % 6 == f;
        int drift = Net.drifts(kind, train);
        return reaches(kind, at + drift, train + 1, n - 1, f) || reaches(kind, at + 1 + drift, train + 1, n - 1, f);
    }

    int carriages(int what) {
        int n = net.riders.size();
        if (!in(what, -1, n - 1)) return -1;
        boolean[][] together = new boolean[n][n];
        for (int i = 0; i < n; i++) {
            for (int j = 0; j < n; j++) {
                One a = net.riders.get(i), b = net.riders.get(j);
                together[i][j] = !a.out && !b.out && (a.at == b.at || Math.abs(a.depth - b.depth) < 5);
            }
        }
        for (int by = 0; by < n; by++) {
            for (int i = 0; i < n; i++) {
                for (int j = 0; j < n; j++) together[i][j] |= together[i][by] && together[by][j];
            }
        }
        java.util.Set<Integer> sets = new java.util.TreeSet<>();
        int of = 0;
        for (int i = 0; i < n; i++) {
            int set = 0;
            for (int j = 0; j < n; j++) if (together[i][j]) set += 1 << j;
            if (set != 0) sets.add(set);
            if (i == what) of = set;
        }
        return what == -1 ? sets.size() : of;
    }

    int press(int n, int what) {
        if (!in(n, 0, 16) || !in(what, 0, 1)) return -1;
        Net copy = net.copy();
        copy.rest(n);
        int[] count = new int[6];
        for (One one : copy.riders) if (!one.out) count[one.at]++;
        int stop = leastOfMost(count);
        return what == 0 ? stop : count[stop];
    }

    private int length(int n) { return Math.min(n, Math.max(0, net.end - net.train)); }

    /** All PLANS of n, those with lesser ACTS where they are unlike first ahead. */
    private List<int[]> plans(int n) {
        int length = length(n), acts = net.riders.size() + 1, count = 1;
        for (int i = 0; i < length; i++) count *= acts;
        List<int[]> plans = new ArrayList<>();
        for (int number = 0; number < count; number++) {
            int[] plan = new int[length];
            for (int i = length - 1, left = number; i >= 0; i--, left /= acts) plan[i] = left % acts;
            plans.add(plan);
        }
        return plans;
    }

    private Net behind(int[] plan) {
        Net copy = net.copy();
        copy.score = 0;
        for (int act : plan) copy.go(act);
        return copy;
    }

    private List<int[]> bestPlans(int n) {
        List<int[]> best = new ArrayList<>();
        int most = -1;
        for (int[] plan : plans(n)) {
            int worth = behind(plan).score;
            if (worth > most) best.clear();
            most = Math.max(most, worth);
            if (worth == most) best.add(plan);
        }
        return best;
    }

    int best(int n) { return in(n, 0, 4) ? behind(bestPlans(n).get(0)).score : -1; }

    int ith(int n, int i) {
        if (!in(n, 0, 4) || !in(i, 0, 3)) return -1;
        int[] first = bestPlans(n).get(0);
        return i < first.length ? first[i] : -3;
    }

    int ways(int n) { return in(n, 0, 4) ? bestPlans(n).size() : -1; }

    private boolean isSet(int riders) { return riders >= 0 && riders < 1 << net.riders.size(); }

    int ticket(int n, int riders) {
        if (!in(n, 0, 4) || !isSet(riders)) return -1;
        int fewest = 99;
        for (int[] plan : plans(n)) {
            int told = 0;
            for (int act : plan) if (act != 0) told++;
            if ((behind(plan).outs() & riders) == riders) fewest = Math.min(fewest, told);
        }
        return fewest == 99 ? -3 : fewest;
    }

    int bars(int n, int riders) {
        if (!in(n, 0, 4) || !isSet(riders)) return -1;
        int ever = 0;
        for (int[] plan : plans(n)) ever |= behind(plan).outs();
        int bars = riders & ~ever;
        return bars == 0 ? -3 : Integer.numberOfTrailingZeros(bars);
    }

    private static int value(Net net, int n, boolean first) {
        if (n == 0 || net.over()) return 0;
        int value = first ? Integer.MIN_VALUE : Integer.MAX_VALUE;
        for (int act = 0; act <= net.riders.size(); act++) {
            Net copy = net.copy();
            int worth = copy.go(act) + value(copy, n - 1, !first);
            value = first ? Math.max(value, worth) : Math.min(value, worth);
        }
        return value;
    }

    int game(int n) { return in(n, 1, 4) ? value(net, n, true) : -1; }

    int play(int n) {
        if (!in(n, 1, 4)) return -1;
        if (net.over()) return -3;
        int value = value(net, n, true);
        for (int act = 0; ; act++) {
            Net copy = net.copy();
            if (copy.go(act) + value(copy, n - 1, false) == value) return act;
        }
    }

    int report(int k, int asked, int least, int most) {
        if (!in(k, 0, 15) || !in(asked, 0, 1) || least < 0 || most > (asked == 0 ? 5 : 99) || most < least) return -1;
        if (net.reports.size() == 6) return -2;
        net.reports.add(new int[] {k, asked, least, most});
        return net.reports.size() - 1;
    }

    int forget() {
        int was = net.reports.size();
        net.reports.clear();
        return was;
    }

    private List<int[]> lones(int but) {
        List<int[]> fit = new ArrayList<>();
        for (int kind = 1; kind <= 5; kind++) {
            for (int stop = 0; stop < 6; stop++) {
                for (int depth = 0; depth <= 81; depth += 9) {
                    boolean fits = true;
                    for (int i = 0; i < net.reports.size(); i++) fits &= i == but || isSo(net.reports.get(i), kind, stop, depth);
                    if (fits) fit.add(new int[] {0, kind, stop, depth});
                }
            }
        }
        return fit;
    }

    private boolean isSo(int[] report, int kind, int stop, int depth) {
        int at = stop, deep = depth;
        for (int train = 0; train < report[0]; train++) {
            deep = Math.min(99, deep + Net.sinks(kind, net.crowds[train] / 4, net.crowds[train] % 4, 0));
            at = (at + Net.drifts(kind, train)) % 6;
        }
        return in(report[1] == 0 ? at : deep, report[2], report[3]);
    }

    int lone(int what) {
        if (!in(what, 0, 3)) return -1;
        List<int[]> fit = lones(-1);
        if (what == 0) return fit.size();
        return fit.isEmpty() ? -3 : fit.get(0)[what];
    }

    int liar() {
        if (!lones(-1).isEmpty()) return -3;
        for (int i = 0; i < net.reports.size(); i++) if (!lones(i).isEmpty()) return i;
        return -3;
    }

    int seed(int v) {
        int was = net.z;
        net.z = v;
        return was;
    }

    private static int goByLot(Net net) {
        net.z = net.z * 1103515245 + 12345;
        return net.go((net.z >>> 16) % (net.riders.size() + 1));
    }

    int lot() { return net.over() ? -4 : goByLot(net); }

    int times(int n, int v) {
        if (!in(n, 1, 40) || !in(v, 0, 999)) return -1;
        int count = 0, z = net.z;
        for (int i = 0; i < n; i++) {
            Net copy = net.copy();
            copy.z = z;
            int worth = 0;
            while (!copy.over()) worth += goByLot(copy);
            z = copy.z;
            if (worth >= v) count++;
        }
        return count;
    }

    int prove(int n) {
        if (!in(n, 0, 4)) return -1;
        rows.clear();
        Net copy = net.copy();
        for (int act : bestPlans(n).get(0)) rows.add(new int[] {act, copy.go(act), copy.outs()});
        return rows.size();
    }

    int row(int k, int what) { return in(k, 0, rows.size() - 1) && in(what, 0, 2) ? rows.get(k)[what] : -9; }

    int alterRow(int k, int what, int v) {
        int was = row(k, what);
        if (in(k, 0, rows.size() - 1) && in(what, 0, 2)) rows.get(k)[what] = v;
        return was;
    }

    int judge() {
        Net copy = net.copy();
        for (int i = 0; i < rows.size(); i++) {
            int[] row = rows.get(i);
            if (!in(row[0], 0, net.riders.size()) || copy.over()) return i + 1;
            if (copy.go(row[0]) != row[1] || copy.outs() != row[2]) return i + 1;
        }
        return 0;
    }

    int sheet(int sheet, int sort, int n) {
        if (!in(sheet, 0, 3) || !in(sort, -1, 4) || sort >= 0 && n > 40) return -1;
        if (sort >= 0 && n < 0) return -14;
        switch (sort) {
            case 0: sheets[sheet] = new byte[n]; break;
            case 1: sheets[sheet] = new short[n]; break;
            case 2: sheets[sheet] = new int[n]; break;
            case 3: sheets[sheet] = new long[n]; break;
            case 4: sheets[sheet] = new boolean[n]; break;
            default: sheets[sheet] = null; break;
        }
        return 1;
    }

    private static int sortOf(Object row) {
        return row instanceof byte[] ? 0 : row instanceof short[] ? 1 : row instanceof int[] ? 2 : row instanceof long[] ? 3 : 4;
    }

    int write(int sheet, int i, int v) {
        if (!in(sheet, 0, 3)) return -1;
        Object row = sheets[sheet];
        if (row == null) return -11;
        try {
            switch (sortOf(row)) {
                case 0: ((byte[]) row)[i] = (byte) v; break;
                case 1: ((short[]) row)[i] = (short) v; break;
                case 2: ((int[]) row)[i] = v; break;
                case 3: ((long[]) row)[i] = v; break;
                default: ((boolean[]) row)[i] = v != 0; break;
            }
            return 1;
        } catch (ArrayIndexOutOfBoundsException e) {
            return -12;
        }
    }

    int item(int sheet, int sort, int i) {
        if (!in(sheet, 0, 3) || !in(sort, 0, 4)) return -1;
        Object row = sheets[sheet];
        if (row == null) return -11;
        if (sortOf(row) != sort) return -13;
        try {
            switch (sort) {
                case 0: return ((byte[]) row)[i];
                case 1: return ((short[]) row)[i];
                case 2: return ((int[]) row)[i];
                case 3: return (int) ((long[]) row)[i];
                default: return ((boolean[]) row)[i] ? 1 : 0;
            }
        } catch (ArrayIndexOutOfBoundsException e) {
            return -12;
        }
    }

    int goAll(int sheet, int i, int n) {
        if (!in(sheet, 0, 3) || !in(n, 0, 20)) return -1;
        if (sheets[sheet] == null) return -11;
        if (!(sheets[sheet] instanceof byte[] row)) return -13;
        int worth = 0;
        for (int k = 0; k < n; k++) {
            if (!in(i, 0, row.length - 1 - k)) return -12;
            int act = row[i + k];
            if (in(act, 0, net.riders.size()) && !net.over()) worth += net.go(act);
        }
        return worth;
    }

    int wouldBe(int sheet, int i, int n) {
        if (!in(sheet, 0, 3) || !in(n, 0, 20)) return -1;
        if (sheets[sheet] == null) return -11;
        if (!(sheets[sheet] instanceof byte[] row)) return -13;
        Net copy = net.copy();
        int worth = 0;
        for (int k = 0; k < n; k++) {
            if (!in(i, 0, row.length - 1 - k)) return -12;
            int act = row[i + k];
            if (!in(act, 0, net.riders.size()) || copy.over()) return -4;
            worth += copy.go(act);
        }
        return worth;
    }

    int shelf(int shelf, int what, int n) {
        if (!in(shelf, 0, 3) || !in(what, 0, 2)) return -1;
        if (what == 0 && !is(n) || what == 1 && !in(n, 0, 3)) return -1;
        shelves[shelf] = what == 0 ? (Object) n : what == 1 ? sheets[n] : null;
        return 1;
    }

    private Object thingOn(int shelf) {
        Object held = shelves[shelf];
        return held instanceof Integer n && !is(n) ? null : held;
    }

    int taken(int shelf, int as) {
        if (!in(shelf, 0, 3) || !in(as, 0, 5) && !in(as, 10, 14)) return -1;
        Object held = thingOn(shelf);
        if (held == null) return -11;
        if (held instanceof Integer n) {
            String[] names = {"rider", "regular", "lady", "father", "clerk", "barrier"};
            return as < 10 && net.riders.get(n).is(names[as]) ? n : -13;
        }
        return as >= 10 && sortOf(held) == as - 10 ? java.lang.reflect.Array.getLength(held) : -13;
    }

    class Thing {
        int n, a;

        int stands(int x) { trace.add(10); return x * 5 - n; }

        int reads(int x) { trace.add(11); return stands(x) + 4 * a; }

        int rounds(int x) { trace.add(12); return x % (n - a + 4); }

        int rises(int x) { trace.add(13); return reads(x) - rounds(x); }
    }

    class RegularThing extends Thing {
        int stands(int x) { trace.add(20); return super.stands(x) ^ 14; }
    }

    class LadyThing extends Thing {
        int reads(int x) { trace.add(30); return super.reads(x) * 3; }
    }

    class FatherThing extends LadyThing {
        int stands(int x) { trace.add(50); return super.stands(x + 11); }

        int rises(int x) { trace.add(51); return super.rises(x) + reads(a); }
    }

    class ClerkThing extends Thing {
        int rounds(int x) { trace.add(40); return super.rounds(x) - 5; }
    }

    class BarrierThing extends ClerkThing {
        int reads(int x) { trace.add(60); return 0 - super.reads(x); }

        int rounds(int x) { trace.add(61); return super.rounds(x) ^ stands(n); }
    }

    int act(int shelf, int act, int x) {
        trace.clear();
        if (!in(shelf, 0, 3) || !in(act, 0, 3) || !(thingOn(shelf) instanceof Integer n)) return 0;
        One one = net.riders.get(n);
        Thing[] things = {null, new RegularThing(), new LadyThing(), new FatherThing(), new ClerkThing(), new BarrierThing()};
        Thing thing = things[one.kind];
        thing.n = n;
        thing.a = one.home;
        try {
            return act == 0 ? thing.stands(x) : act == 1 ? thing.reads(x) : act == 2 ? thing.rounds(x) : thing.rises(x);
        } catch (ArithmeticException e) {
            return -15;
        }
    }

    private int traced() { return Math.min(30, trace.size()); }

    int trace(int i) { return in(i, 0, traced() - 1) ? trace.get(i) : -3; }

    int many(int what) {
        int[] all = {net.riders.size(), net.rules.size(), Integer.bitCount(net.outs()), net.reports.size(), rows.size(),
            tape.size(), traced()};
        return in(what, 0, 6) ? all[what] : -1;
    }

    int keep() {
        kept = net.copy();
        return 1;
    }

    int again() {
        if (kept == null) return -3;
        net = kept.copy();
        return net.riders.size();
    }
}
