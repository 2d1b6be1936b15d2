import java.util.Arrays;

/** The edges that the document names, from within. Promises 23 to 40; PLANS and GAMES also by goAll() on new objects. */
final class BoundsOfPlansTest {
    private static final int REGULAR = 1, LADY = 2;
    private static final int NETS = 6, NOT_ONE = 99;
    private static final Due due = new Due("BoundsOfPlansTest");

    public static void main(String[] args) {
        emptyPlans();
        fewerTrains();
        unlikeFirst();
        waysOfMany();
        tickets();
        bars();
        games();
        for (int number = 0; number < NETS; number++) {
            for (int n = 1; n <= 4; n++) byItems(number, n);
        }
        reports();
        lone();
        liars();
        lots();
        times();
        rows();
        judge();
        due.end();
    }

    private static void emptyPlans() {
        InnerCircle over = Due.ladies();
        over.ends(1);
        over.train();
        InnerCircle[] nets = {new InnerCircle(), Due.ladies(), over};
        for (InnerCircle x : nets) {
            int riders = x.many(0), all = (1 << riders) - 1, outs = x.state(4);
            for (int n = 0; n <= 4; n++) {
                if (n > 0 && x != over) continue;
                due.promise(23);
                due.is("best of no TRAINS", x.best(n), 0);
                due.promise(24);
                for (int i = 0; i < 4; i++) due.is("ith of no TRAINS", x.ith(n, i), -3);
                due.promise(25);
                due.is("ways of no TRAINS: one", x.ways(n), 1);
                due.promise(26);
                due.is("ticket of nobody by no TRAINS", x.ticket(n, 0), 0);
                due.is("ticket of all by no TRAINS", x.ticket(n, all), outs == all ? 0 : -3);
                due.is("ticket of those OUT", x.ticket(n, outs), 0);
                due.promise(27);
                due.is("bars of all by no TRAINS", x.bars(n, all), riders == 0 ? -3 : outs == 1 ? 1 : 0);
                due.is("bars of those OUT", x.bars(n, outs), -3);
                due.promise(37);
                due.is("prove of no TRAINS", x.prove(n), 0);
                due.is("so there are no ROWS", x.many(4), 0);
                due.promise(40);
                due.is("which are right", x.judge(), 0);
            }
        }
        due.promise(28);
        due.is("a GAME when it is OVER", over.game(4), 0);
        due.promise(29);
        due.is("play when it is OVER", over.play(1), -3);
    }

    private static void fewerTrains() {
        for (int end = 1; end <= 4; end++) {
            InnerCircle x = Due.ladies(), y = Due.ladies();
            x.ends(end);
            for (int n = end; n <= 4; n++) {
                due.promise(23);
                due.is("best of " + n + " by END " + end, x.best(n), y.best(end));
                due.promise(24);
                for (int i = 0; i < 4; i++) due.is("ith of " + n + " by END " + end, x.ith(n, i), y.ith(end, i));
                due.promise(25);
                due.is("ways of " + n + " by END " + end, x.ways(n), y.ways(end));
                due.promise(26);
                due.is("ticket by " + n + " by END " + end, x.ticket(n, 3), y.ticket(end, 3));
                due.promise(27);
                due.is("bars by " + n + " by END " + end, x.bars(n, 3), y.bars(end, 3));
                due.promise(28);
                due.is("game of " + n + " by END " + end, x.game(n), y.game(end));
                due.promise(29);
                due.is("play of " + n + " by END " + end, x.play(n), y.play(end));
                due.promise(37);
                due.is("prove of " + n + " by END " + end, x.prove(n), end);
            }
        }
    }

    private static void unlikeFirst() {
        due.promise(24);
        InnerCircle x = Due.ladies();
        // 24 by 1, 2 and by 2, 1: unlike first at 0, where 1 is less
        due.is("the lesser ACT where they are unlike first", x.ith(2, 0) * 10 + x.ith(2, 1), 12);
        InnerCircle y = Due.still(16);
        for (int k = 0; k < 6; k++) y.rider(REGULAR, 0, 9, k);
        // 18 for each that exits AT HOME, 11 later on: all alike, so the least first
        due.is("0", y.ith(4, 0), 1);
        due.is("1", y.ith(4, 1), 2);
        due.is("2", y.ith(4, 2), 3);
        due.is("3", y.ith(4, 3), 4);
        due.promise(23);
        due.is("18 and three times 11", y.best(4), 51);
        due.promise(25);
        due.is("any four of six, in any order", y.ways(4), 6 * 5 * 4 * 3);
        due.promise(24);
        Due.rules(y, "rider stay;");
        for (int i = 0; i < 4; i++) due.is("all are alike: 0 at " + i, y.ith(4, i), 0);
    }

    private static void waysOfMany() {
        due.promise(25);
        int[] trains = {1, 2, 3, 4};
        for (int riders = 0; riders <= 6; riders++) {
            InnerCircle x = Due.still(16);
            for (int k = 0; k < riders; k++) x.rider(LADY, 0, 0, 0);
            Due.rules(x, "rider stay;");
            int want = 1;
            for (int n : trains) {
                want *= riders + 1;
                due.is(riders + " who stay, by " + n, x.ways(n), want);
            }
            for (int k = 0; k < riders; k++) x.change(k, 4, 1);
            due.is(riders + " who are OUT, by 4", x.ways(4), want);
            Due.rules(x, "");
            due.is(riders + " who are OUT and would exit, by 4", x.ways(4), want);
        }
    }

    private static void tickets() {
        due.promise(26);
        InnerCircle x = Due.still(16);
        for (int k = 0; k < 6; k++) x.rider(LADY, 0, 5, k);
        int[] sets = {0, 1, 32, 3, 33, 7, 56, 15, 60, 31, 63};
        for (int set : sets) {
            int many = Integer.bitCount(set);
            for (int n = 0; n <= 4; n++) due.is("ticket by " + n + " of " + set, x.ticket(n, set), many <= n ? many : -3);
        }
        for (int k = 0; k < 5; k++) x.change(k, 4, 1);
        due.is("all but one are OUT", x.ticket(1, 63), 1);
        x.change(5, 4, 1);
        due.is("all are OUT", x.ticket(4, 63), 0);
        InnerCircle y = Due.still(16);
        y.rider(LADY, 0, 5, 0);
        y.rider(LADY, 0, 5, 1);
        Due.rules(y, "lady if number=0 and train<3 stay;lady if number=1 and train>0 stay;");
        due.is("1 in TRAIN 0 alone, 0 in TRAIN 3 alone", y.ticket(4, 3), 2);
        due.is("0 not by 3", y.ticket(3, 1), -3);
        due.is("1 by 1", y.ticket(1, 2), 1);
    }

    private static void bars() {
        due.promise(27);
        InnerCircle x = Due.still(16);
        for (int k = 0; k < 6; k++) x.rider(LADY, 0, 0, k);
        due.is("each by 1", x.bars(1, 63), -3);
        due.is("none by 0", x.bars(0, 63), 0);
        Due.rules(x, "lady if number>2 and not number=4 stay;");
        due.is("3 and 5", x.bars(4, 63), 3);
        due.is("5 alone", x.bars(4, 32 + 16 + 1), 5);
        due.is("of neither", x.bars(4, 16 + 7), -3);
        x.change(3, 4, 1);
        due.is("3 is OUT", x.bars(4, 63), 5);
        Due.rules(x, "lady if train<3 stay;");
        due.is("in the fourth TRAIN", x.bars(4, 63), -3);
        due.is("not by 3", x.bars(3, 63), 0);
        x.ends(3);
        due.is("it is OVER ahead of the fourth", x.bars(4, 63), 0);
    }

    private static void games() {
        InnerCircle x = Due.ladies();
        due.promise(28);
        due.is("1: 13 and 1", x.game(1), 14);
        // TRAIN 1: ACT 0 lets who is left drift from HOME
        due.is("2: 14 and 0", x.game(2), 14);
        // TRAIN 2: lady 0 PAYS 3 then, lady 1 6: 14 and 3, or 11 and 6
        due.is("3: 17", x.game(3), 17);
        due.is("4: 17 and 0", x.game(4), 17);
        due.promise(29);
        due.is("1", x.play(1), 2);
        due.is("2", x.play(2), 2);
        due.is("3: the lesser of two", x.play(3), 1);
        due.is("4: the lesser of two", x.play(4), 1);
        InnerCircle y = Due.still(16);
        Due.rules(y, "rider ride;");
        y.rider(LADY, 0, 0, 0);
        y.change(0, 5, 5);
        due.promise(28);
        // 0 now lets it drift HOME in TRAIN 1, but the other one makes it ride past; a ride now is 1
        due.is("the other one wants as little", y.game(2), 1);
        due.promise(29);
        due.is("so it rides now", y.play(2), 1);
        due.promise(28);
        y.crowd(1, 1);
        // by LAMPS the ride past HOME in TRAIN 1 is WORTH 1 as well, so now 0 comes to 1, too
        due.is("by LAMPS", y.game(2), 1);
        due.promise(29);
        due.is("the least of both ACTS", y.play(2), 0);
        InnerCircle z = Due.still(16);
        z.rider(LADY, 0, 0, 0);
        Due.rules(z, "rider ride;");
        due.is("a ride from HOME is worse than none: ACT 0", z.play(1), 0);
        due.promise(28);
        due.is("which is WORTH 1", z.game(1), 1);
    }

    /** Some nets for which all PLANS are gone through by goAll(). */
    private static InnerCircle net(int number) {
        InnerCircle x = new InnerCircle();
        for (int f = 0; f < 6; f++) {
            x.home(f, 0, (f * 5 + number) % 10);
            x.home(f, 1, (f * 3 + 2 * number) % 10);
        }
        for (int train = 0; train < 16; train++) x.crowd(train, (train * 7 + number * 3) % 16);
        int riders = number % 4 + 1;
        for (int k = 0; k < riders; k++) x.rider((k * 2 + number) % 5 + 1, (k * 23 + number * 11) % 100, (k * 4 + number) % 10, (k * 2 + number) % 6);
        if (number % 3 == 1) Due.rules(x, "clerk if train<2 ride; rider if depth>30 and not rush=0 ride; lady if wish<3 stay;");
        if (number % 3 == 2) Due.rules(x, "regular if train=1 or rush>2 stay; rider if number=train ride;");
        x.ends(number == 5 ? 3 : 16);
        return x;
    }

    private static InnerCircle behind(int number, int[] plan, int n) {
        InnerCircle x = net(number);
        x.sheet(0, 0, 4);
        for (int i = 0; i < n; i++) x.write(0, i, plan[i]);
        x.goAll(0, 0, n);
        return x;
    }

    private static int value(int number, int[] plan, int done, int n) {
        if (done == n) return behind(number, plan, n).state(2);
        int value = done % 2 == 0 ? -1 : 9999;
        for (int act = 0; act <= number % 4 + 1; act++) {
            plan[done] = act;
            int one = value(number, plan, done + 1, n);
            value = done % 2 == 0 ? Math.max(value, one) : Math.min(value, one);
        }
        return value;
    }

    private static void byItems(int number, int n) {
        InnerCircle x = net(number);
        int acts = x.many(0) + 1, all = (1 << x.many(0)) - 1, trains = Math.min(n, x.state(1)), plans = 1;
        for (int i = 0; i < trains; i++) plans *= acts;
        int most = -1, ways = 0, ever = 0;
        int[] first = new int[4], fewest = new int[all + 1], plan = new int[4];
        Arrays.fill(fewest, NOT_ONE);
        for (int i = 0; i < plans; i++) {
            int told = 0;
            for (int place = trains - 1, left = i; place >= 0; place--, left /= acts) {
                plan[place] = left % acts;
                if (plan[place] != 0) told++;
            }
            InnerCircle y = behind(number, plan, trains);
            int worth = y.state(2), outs = y.state(4);
            if (worth > most) {
                most = worth;
                ways = 0;
                first = plan.clone();
            }
            if (worth == most) ways++;
            ever |= outs;
            for (int set = 0; set <= all; set++) {
                if ((outs & set) == set) fewest[set] = Math.min(fewest[set], told);
            }
        }
        String name = " of net " + number + " by " + n;
        due.promise(23);
        due.is("best" + name, x.best(n), most);
        due.promise(24);
        for (int i = 0; i < 4; i++) due.is("ith " + i + name, x.ith(n, i), i < trains ? first[i] : -3);
        due.promise(25);
        due.is("ways" + name, x.ways(n), ways);
        for (int set = 0; set <= all; set++) {
            due.promise(26);
            due.is("ticket of " + set + name, x.ticket(n, set), fewest[set] == NOT_ONE ? -3 : fewest[set]);
            due.promise(27);
            int bars = set & ~ever;
            due.is("bars of " + set + name, x.bars(n, set), bars == 0 ? -3 : Integer.numberOfTrailingZeros(bars));
        }
        int value = value(number, plan, 0, trains), opening = -1;
        for (int act = acts - 1; act >= 0; act--) {
            plan[0] = act;
            if (value(number, plan, 1, trains) == value) opening = act;
        }
        due.promise(28);
        due.is("game" + name, x.game(n), value);
        due.promise(29);
        due.is("play" + name, x.play(n), opening);
        due.promise(37);
        due.is("prove" + name, x.prove(n), trains);
        int worth = 0;
        for (int i = 0; i < trains; i++) {
            InnerCircle y = behind(number, first, i + 1);
            due.promise(38);
            due.is("row " + i + ", 0" + name, x.row(i, 0), first[i]);
            due.is("row " + i + ", 1" + name, x.row(i, 1), y.state(2) - worth);
            due.is("row " + i + ", 2" + name, x.row(i, 2), y.state(4));
            worth = y.state(2);
        }
        due.promise(40);
        due.is("judge" + name, x.judge(), 0);
    }

    private static void reports() {
        due.promise(30);
        InnerCircle x = new InnerCircle();
        due.is("TRAIN 0, STOPS 0 to 0", x.report(0, 0, 0, 0), 0);
        due.is("TRAIN 15, STOPS 5 to 5", x.report(15, 0, 5, 5), 1);
        due.is("STOPS 0 to 5", x.report(15, 0, 0, 5), 2);
        due.is("DEPTH 0 to 0", x.report(0, 1, 0, 0), 3);
        due.is("DEPTH 99 to 99", x.report(15, 1, 99, 99), 4);
        due.is("DEPTH 0 to 99", x.report(0, 1, 0, 99), 5);
        due.is("full", x.report(0, 1, 0, 99), -2);
        due.promise(31);
        due.is("six", x.forget(), 6);
        due.is("none", x.forget(), 0);
        due.is("as new", x.lone(0), 300);
    }

    private static void lone() {
        due.promise(32);
        for (int stop = 0; stop < 6; stop++) {
            for (int depth = 0; depth <= 90; depth += 3) {
                InnerCircle x = new InnerCircle();
                x.report(0, 0, stop, stop);
                x.report(0, 1, depth, depth);
                boolean is = depth % 9 == 0 && depth <= 81;
                due.is("one of each KIND from " + stop + ", " + depth + " deep", x.lone(0), is ? 5 : 0);
                due.is("KIND", x.lone(1), is ? 1 : -3);
                due.is("STOP", x.lone(2), is ? stop : -3);
                due.is("DEPTH", x.lone(3), is ? depth : -3);
            }
        }
        for (int crowd = 0; crowd < 16; crowd++) {
            InnerCircle x = new InnerCircle();
            for (int train = 0; train < 16; train++) x.crowd(train, crowd);
            int rush = crowd / 4, lamps = crowd % 4, clerk = Math.max(0, rush - lamps);
            int[] sinks = {lamps == 0 ? 1 : 0, 2 * rush, 2 * rush + 3, clerk, clerk / 2};
            for (int deep = 0; deep <= 9; deep++) {
                x.forget();
                x.report(0, 1, 0, 0);
                x.report(1, 1, deep, deep);
                int want = 0;
                for (int by : sinks) if (by == deep) want += 6;
                due.is("by CROWD " + crowd + " to " + deep, x.lone(0), want);
            }
        }
        InnerCircle x = new InnerCircle();
        int[] on = {15, 7, 14, 8, 8 + 14};
        for (int kind = 1; kind <= 5; kind++) {
            for (int stop = 0; stop < 6; stop++) {
                x.forget();
                x.report(0, 0, stop, stop);
                x.report(0, 1, 0, 0);
                int at = (stop + on[kind - 1]) % 6, want = 0;
                x.report(15, 0, at, at);
                for (int by : on) if ((stop + by) % 6 == at) want++;
                due.is("KINDS that drift as " + kind + " does, from " + stop, x.lone(0), want);
            }
        }
    }

    private static void liars() {
        due.promise(33);
        InnerCircle x = Due.still(16);
        // behind TRAIN 0 from 0 a father is 3 deep: he alone
        x.report(0, 1, 0, 0);
        x.report(0, 0, 0, 0);
        x.report(1, 1, 3, 3);
        due.promise(32);
        due.is("one FITS", x.lone(0), 1);
        due.promise(33);
        due.is("one FITS: none lies", x.liar(), -3);
        x.report(0, 0, 1, 2);
        due.is("the least of 1 and 3", x.liar(), 1);
        x.report(0, 0, 0, 0);
        due.is("3 alone", x.liar(), 3);
        x.report(0, 0, 2, 2);
        due.is("two lie", x.liar(), -3);
        for (int wrong = 0; wrong < 6; wrong++) {
            x.forget();
            for (int i = 0; i < 6; i++) x.report(0, 0, i == wrong ? 5 : 3, i == wrong ? 5 : 3);
            due.is("of six, " + wrong, x.liar(), wrong);
        }
        x.forget();
        for (int i = 0; i < 6; i++) x.report(i, 1, 99, 99);
        due.is("all lie", x.liar(), -3);
        x.forget();
        due.is("no REPORTS", x.liar(), -3);
    }

    private static void lots() {
        int[] seeds = {0, 1, -1, Integer.MIN_VALUE, Integer.MAX_VALUE, 12345, -987654321, 2000000000};
        for (int seed : seeds) {
            due.promise(34);
            InnerCircle x = new InnerCircle();
            due.is("seed", x.seed(seed), 1);
            due.is("seed was " + seed, x.seed(seed), seed);
            due.promise(35);
            for (int riders = 0; riders <= 6; riders++) {
                InnerCircle y = Due.still(16);
                for (int k = 0; k < riders; k++) y.rider(LADY, 0, k, 3);
                y.seed(seed);
                long z = (seed * 1103515245L + 12345L) << 32 >> 32;
                int act = (int) ((z & 0xFFFFFFFFL) / 65536 % (riders + 1));
                int others = act == 0 ? riders : riders - 1;
                due.is("LOT of " + riders + " from " + seed, y.lot(), others + (act == 0 ? 0 : 9 + act - 1));
                due.is("it is told", y.state(4), act == 0 ? 0 : 1 << act - 1);
                due.is("z then", y.seed(1), z);
            }
        }
        due.promise(35);
        InnerCircle x = Due.still(1);
        due.is("the last TRAIN", x.lot(), 0);
        due.is("OVER", x.lot(), -4);
        due.is("z is that of one LOT", x.seed(1), 1103527590);
    }

    private static void times() {
        due.promise(36);
        InnerCircle x = Due.still(2);
        x.rider(LADY, 0, 9, 0);
        x.rider(LADY, 0, 9, 1);
        // each time two LOTS; z goes on from one time to the next
        int z = 1;
        int[] worths = new int[40];
        for (int i = 0; i < 40; i++) {
            InnerCircle y = Due.still(2);
            y.rider(LADY, 0, 9, 0);
            y.rider(LADY, 0, 9, 1);
            y.seed(z);
            worths[i] = y.lot() + y.lot();
            z = y.seed(0);
        }
        for (int n = 1; n <= 40; n++) {
            for (int v : new int[] {0, 1, 2, 3, 19, 20, 37, 38, 999}) {
                int want = 0;
                for (int i = 0; i < n; i++) if (worths[i] >= v) want++;
                due.is(n + " times, " + v + " or more", x.times(n, v), want);
            }
        }
        due.is("z is as it was", x.seed(1), 1);
        due.is("all is as it was", x.state(0) + x.state(2) + x.state(4), 0);
        x.train();
        x.train();
        due.is("OVER: 0 each", x.times(40, 0), 40);
        due.is("OVER: not 1", x.times(40, 1), 0);
    }

    private static void rows() {
        due.promise(39);
        InnerCircle x = Due.ladies();
        due.is("four ROWS", x.prove(4), 4);
        int[] values = {Integer.MIN_VALUE, -9, -1, 0, 7, Integer.MAX_VALUE};
        for (int k = 0; k < 4; k++) {
            for (int what = 0; what < 3; what++) {
                int was = x.row(k, what);
                for (int v : values) {
                    due.is("ROW " + k + ", " + what + " to " + v, x.alterRow(k, what, v), was);
                    due.is("ROW " + k + ", " + what, x.row(k, what), v);
                    was = v;
                }
            }
        }
        due.promise(37);
        due.is("one ROW in place of four", x.prove(1), 1);
        due.promise(38);
        due.is("ROW 0", x.row(0, 0), 2);
        due.is("ROW 1 is gone", x.row(1, 0), -9);
        due.is("ROW 3 is gone", x.row(3, 2), -9);
        due.promise(37);
        x.train();
        due.is("ROWS stay when a TRAIN goes by", x.many(4), 1);
    }

    private static void judge() {
        due.promise(40);
        for (int k = 0; k < 4; k++) {
            for (int what = 0; what < 3; what++) {
                InnerCircle x = Due.ladies();
                x.prove(4);
                x.alterRow(k, what, x.row(k, what) + 3);
                due.is("ROW " + k + ", " + what + " isn't right", x.judge(), k + 1);
            }
        }
        InnerCircle x = Due.ladies();
        x.prove(4);
        int[] none = {-1, 3, 256, Integer.MIN_VALUE, Integer.MAX_VALUE};
        for (int act : none) {
            x.alterRow(1, 0, act);
            due.is(act + " is no ACT", x.judge(), 2);
        }
        x.prove(4);
        x.rider(LADY, 0, 0, 3);
        due.is("a RIDER more: WORTH is another one", x.judge(), 1);
        InnerCircle y = Due.ladies();
        y.prove(4);
        for (int end = 16; end >= 1; end--) {
            y.ends(end);
            due.is("END " + end, y.judge(), end >= 4 ? 0 : end + 1);
        }
    }
}
