import java.util.Arrays;

/** Every refusal that the document names: what is answered, which of several, and that it changes nothing. */
final class RefusalsTest {
    private static final int BAD = -1, FULL = -2, NONE = -3, STATE = -4, NO_ROW = -9;
    private static final int NOTHING = -11, OUTSIDE = -12, OTHER_SORT = -13, BELOW_ZERO = -14;
    private static final int MIN = Integer.MIN_VALUE, MAX = Integer.MAX_VALUE;
    private static final Due due = new Due("RefusalsTest");

    private interface Call { int on(InnerCircle x); }

    private interface Maker { InnerCircle make(); }

    public static void main(String[] args) {
        net();
        rules();
        trains();
        asked();
        plans();
        strangers();
        lots();
        rows();
        sheets();
        itemsAsActs();
        shelves();
        acts();
        kept();
        due.end();
    }

    /** TRAIN 1 of 12, three RIDERS (0 is OUT), some of all else; SHEETS: bytes, shorts, missing, booleans. */
    private static InnerCircle busy() {
        InnerCircle x = new InnerCircle();
        x.home(1, 0, 4);
        x.home(2, 1, 7);
        x.crowd(0, 6);
        x.crowd(3, 13);
        x.rider(1, 20, 8, 0);
        x.rider(3, 31, 5, 1);
        x.keep();
        x.rider(5, 44, 7, 4);
        Due.rules(x, "barrier if depth>50 and not rush=3 ride; father if train>9 stay;");
        x.report(2, 1, 10, 60);
        x.report(3, 0, 1, 4);
        x.train();
        x.seed(4711);
        x.prove(3);
        x.alterRow(1, 1, -6);
        x.sheet(0, 0, 5);
        x.write(0, 0, 2);
        x.write(0, 1, 9);
        x.write(0, 2, 3);
        x.sheet(1, 1, 4);
        x.write(1, 3, -300);
        x.sheet(3, 4, 2);
        x.write(3, 1, 1);
        x.shelf(0, 0, 1);
        x.shelf(1, 1, 1);
        x.shelf(3, 0, 2);
        x.act(0, 3, 5);
        Due.feed(x, "lady stay;");
        return x;
    }

    /** Six RIDERS, six REPORTS, eight RULES, 200 bytes, and it is OVER at 16. */
    private static InnerCircle full() {
        InnerCircle x = new InnerCircle();
        x.ends(16);
        for (int k = 0; k < 6; k++) x.rider(k % 5 + 1, 10 * k, k, k);
        for (int i = 0; i < 6; i++) x.report(i, 1, 0, 99);
        Due.rules(x, "clerk stay;clerk stay;clerk stay;clerk stay;clerk stay;clerk stay;clerk stay;lady ride;");
        for (int i = 0; i < 16; i++) x.train();
        for (int i = 0; i < 25; i++) x.feed(0x2020202020202020L, 8);
        x.sheet(0, 0, 40);
        x.shelf(0, 0, 5);
        x.act(0, 2, 77);
        return x;
    }

    private static InnerCircle empty() {
        return new InnerCircle();
    }

    /** All that can be seen; it is used up by it. */
    private static int[] look(InnerCircle x) {
        int[] seen = new int[4000];
        int n = 0;
        for (int times = 0; times < 2; times++) {
            for (int what = 0; what <= 6; what++) seen[n++] = x.many(what);
            for (int what = 0; what <= 6; what++) seen[n++] = x.state(what);
            for (int k = 0; k < 6; k++) {
                for (int what = 0; what <= 10; what++) seen[n++] = x.riderOf(k, what);
            }
            for (int f = 0; f < 6; f++) {
                seen[n++] = x.homeOf(f, 0);
                seen[n++] = x.homeOf(f, 1);
            }
            for (int train = 0; train < 16; train++) {
                seen[n] = x.crowd(train, 0);
                x.crowd(train, seen[n++]);
            }
            for (int what = 0; what <= 3; what++) seen[n++] = x.lone(what);
            seen[n++] = x.on(16);
            for (int k = 0; k < 4; k++) {
                for (int what = 0; what <= 2; what++) seen[n++] = x.row(k, what);
            }
            for (int i = 0; i < 12; i++) seen[n++] = x.trace(i);
            for (int s = 0; s < 4; s++) {
                for (int as = 0; as <= 14; as++) seen[n++] = x.taken(s, as);
                for (int sort = 0; sort < 5; sort++) {
                    for (int i = 0; i <= 40; i++) seen[n++] = x.item(s, sort, i);
                }
            }
            seen[n++] = x.rules();
            for (int k = 0; k < 6; k++) seen[n++] = x.riderOf(k, 10);
            seen[n++] = x.seed(0);
            // the second time what is kept is seen
            seen[n++] = x.again();
        }
        return seen;
    }

    private static void refused(String name, Maker maker, int want, Call call) {
        InnerCircle x = maker.make();
        due.is(name, call.on(x), want);
        due.is(name + " changes nothing: that is", Arrays.equals(look(x), look(maker.make())) ? 1 : 0, 1);
    }

    private static void busy(String name, int want, Call call) {
        refused(name, RefusalsTest::busy, want, call);
    }

    private static void full(String name, int want, Call call) {
        refused(name + " when all is full", RefusalsTest::full, want, call);
    }

    private static void empty(String name, int want, Call call) {
        refused(name + " of a new one", RefusalsTest::empty, want, call);
    }

    private static void net() {
        due.promise(2);
        int[] kinds = {MIN, -1, 0, 6, 7, MAX}, depths = {MIN, -1, 100, MAX}, wishes = {MIN, -1, 10, MAX}, homes = {MIN, -1, 6, MAX};
        for (int v : kinds) busy("rider, kind " + v, BAD, x -> x.rider(v, 1, 1, 1));
        for (int v : depths) busy("rider, depth " + v, BAD, x -> x.rider(1, v, 1, 1));
        for (int v : wishes) busy("rider, wish " + v, BAD, x -> x.rider(1, 1, v, 1));
        for (int v : homes) busy("rider, home " + v, BAD, x -> x.rider(1, 1, 1, v));
        full("rider", FULL, x -> x.rider(1, 1, 1, 1));
        full("rider, kind 0", BAD, x -> x.rider(0, 1, 1, 1));
        full("rider, home 6", BAD, x -> x.rider(5, 1, 1, 6));
        due.promise(3);
        int[] others = {MIN, -1, 3, 5, 6, MAX};
        for (int k : others) busy("riderOf " + k, BAD, x -> x.riderOf(k, 1));
        for (int what : new int[] {MIN, -1, 11, MAX}) busy("riderOf what " + what, BAD, x -> x.riderOf(1, what));
        full("riderOf 6", BAD, x -> x.riderOf(6, 0));
        empty("riderOf 0", BAD, x -> x.riderOf(0, 0));
        due.promise(4);
        for (int k : others) busy("change " + k, BAD, x -> x.change(k, 1, 1));
        for (int what : new int[] {MIN, -1, 0, 6, 7, MAX}) busy("change what " + what, BAD, x -> x.change(1, what, 1));
        int[] most = {-1, 99, 9, 5, 1, 5};
        for (int what = 1; what <= 5; what++) {
            for (int v : new int[] {MIN, -1, most[what] + 1, MAX}) {
                int which = what;
                busy("change what " + what + " to " + v, BAD, x -> x.change(1, which, v));
            }
        }
        empty("change 0", BAD, x -> x.change(0, 1, 1));
        due.promise(5);
        for (int k : others) busy("remake " + k, BAD, x -> x.remake(k, 1));
        for (int v : kinds) busy("remake to " + v, BAD, x -> x.remake(1, v));
        empty("remake 0", BAD, x -> x.remake(0, 1));
        due.promise(6);
        for (int train : new int[] {MIN, -1, 16, MAX}) busy("crowd of " + train, BAD, x -> x.crowd(train, 1));
        for (int v : new int[] {MIN, -1, 16, MAX}) busy("crowd " + v, BAD, x -> x.crowd(1, v));
        for (int f : homes) {
            due.promise(7);
            busy("home " + f, BAD, x -> x.home(f, 0, 1));
            due.promise(8);
            busy("homeOf " + f, BAD, x -> x.homeOf(f, 0));
        }
        for (int what : new int[] {MIN, -1, 2, MAX}) {
            due.promise(7);
            busy("home what " + what, BAD, x -> x.home(1, what, 1));
            due.promise(8);
            busy("homeOf what " + what, BAD, x -> x.homeOf(1, what));
        }
        due.promise(7);
        for (int v : wishes) {
            busy("GARDEN " + v, BAD, x -> x.home(1, 0, v));
            busy("POSTER " + v, BAD, x -> x.home(1, 1, v));
        }
        due.promise(9);
        for (int v : new int[] {MIN, -1, 0, 17, MAX}) {
            busy("ends " + v, BAD, x -> x.ends(v));
            full("ends " + v, BAD, x -> x.ends(v));
        }
        for (int v = 1; v < 16; v++) {
            int end = v;
            full("ends " + v, STATE, x -> x.ends(end));
        }
        due.promise(11);
        for (int what : new int[] {MIN, -1, 7, 8, MAX}) busy("state " + what, BAD, x -> x.state(what));
    }

    private static void rules() {
        due.promise(12);
        for (int n : new int[] {MIN, -1, 0, 9, MAX}) {
            busy("feed of " + n, BAD, x -> x.feed('a', n));
            full("feed of " + n, BAD, x -> x.feed('a', n));
        }
        for (int n = 1; n <= 8; n++) {
            int bytes = n;
            full("feed of " + n, FULL, x -> x.feed('a', bytes));
        }
        due.promise(13);
        // THE TAPE alone is used up
        InnerCircle x = busy(), y = busy();
        x.feed('?', 1);
        due.is("rules at FAULT", x.rules(), -110);
        due.is("so THE TAPE is used up", x.many(5), 0);
        y.rules();
        due.is("one RULE would have come", y.many(1), 1);
        InnerCircle z = busy();
        due.is("RULES are as they were", x.many(1), z.many(1));
        x.change(2, 1, 51);
        due.is("and tell as they did", x.riderOf(2, 10), 1);
    }

    private static void trains() {
        due.promise(14);
        full("train", STATE, x -> x.train());
        int[] counts = {MIN, -1, 17, MAX}, others = {MIN, -1, 3, 6, MAX};
        due.promise(15);
        for (int n : counts) busy("on " + n, BAD, x -> x.on(n));
        for (int k : others) {
            due.promise(16);
            busy("when " + k, BAD, x -> x.when(k));
            due.promise(17);
            busy("wishFor " + k, BAD, x -> x.wishFor(k));
            due.promise(18);
            busy("homeFor " + k, BAD, x -> x.homeFor(k));
        }
        due.promise(16);
        busy("when of one OUT", NONE, x -> x.when(0));
        full("when", NONE, x -> x.when(4));
        full("when 6", BAD, x -> x.when(6));
        empty("when 0", BAD, x -> x.when(0));
        due.promise(17);
        empty("wishFor 0", BAD, x -> x.wishFor(0));
        due.promise(18);
        empty("homeFor 0", BAD, x -> x.homeFor(0));
    }

    private static void asked() {
        int[] others = {MIN, -1, 3, 6, MAX};
        for (int k : others) {
            due.promise(19);
            busy("lost " + k, BAD, x -> x.lost(k));
            due.promise(20);
            busy("reach of " + k, BAD, x -> x.reach(k, 1));
        }
        due.promise(19);
        busy("lost of one OUT", NONE, x -> x.lost(0));
        empty("lost 0", BAD, x -> x.lost(0));
        due.promise(20);
        for (int f : new int[] {MIN, -1, 6, MAX}) busy("reach to " + f, BAD, x -> x.reach(1, f));
        due.promise(21);
        for (int what : new int[] {MIN, -2, 3, 5, 6, MAX}) busy("carriages " + what, BAD, x -> x.carriages(what));
        full("carriages 6", BAD, x -> x.carriages(6));
        due.promise(22);
        for (int n : new int[] {MIN, -1, 17, MAX}) busy("press behind " + n, BAD, x -> x.press(n, 0));
        for (int what : new int[] {MIN, -1, 2, MAX}) busy("press what " + what, BAD, x -> x.press(1, what));
    }

    private static void plans() {
        for (int n : new int[] {MIN, -1, 5, MAX}) {
            due.promise(23);
            busy("best " + n, BAD, x -> x.best(n));
            due.promise(24);
            busy("ith of " + n, BAD, x -> x.ith(n, 0));
            due.promise(25);
            busy("ways " + n, BAD, x -> x.ways(n));
            due.promise(26);
            busy("ticket by " + n, BAD, x -> x.ticket(n, 0));
            due.promise(27);
            busy("bars by " + n, BAD, x -> x.bars(n, 0));
            due.promise(37);
            busy("prove " + n, BAD, x -> x.prove(n));
        }
        due.promise(24);
        for (int i : new int[] {MIN, -1, 4, MAX}) busy("ith, " + i, BAD, x -> x.ith(4, i));
        busy("ith of 2, 2", NONE, x -> x.ith(2, 2));
        busy("ith of 2, 4", BAD, x -> x.ith(2, 4));
        full("ith of 4, 0", NONE, x -> x.ith(4, 0));
        for (int set : new int[] {MIN, -1, 8, 9, 32, 64, MAX}) {
            due.promise(26);
            busy("ticket of " + set, BAD, x -> x.ticket(3, set));
            due.promise(27);
            busy("bars of " + set, BAD, x -> x.bars(3, set));
        }
        due.promise(26);
        busy("ticket by 0", NONE, x -> x.ticket(0, 2));
        full("ticket of 64", BAD, x -> x.ticket(1, 64));
        empty("ticket of 1", BAD, x -> x.ticket(1, 1));
        due.promise(27);
        busy("bars of nobody", NONE, x -> x.bars(4, 0));
        full("bars of 64", BAD, x -> x.bars(1, 64));
        empty("bars of 1", BAD, x -> x.bars(1, 1));
        for (int n : new int[] {MIN, -1, 0, 5, MAX}) {
            due.promise(28);
            busy("game of " + n, BAD, x -> x.game(n));
            due.promise(29);
            busy("play of " + n, BAD, x -> x.play(n));
            full("play of " + n, BAD, x -> x.play(n));
        }
        for (int n = 1; n <= 4; n++) {
            int trains = n;
            full("play of " + n, NONE, x -> x.play(trains));
        }
    }

    private static void strangers() {
        due.promise(30);
        for (int k : new int[] {MIN, -1, 16, MAX}) busy("report of " + k, BAD, x -> x.report(k, 0, 1, 2));
        for (int asked : new int[] {MIN, -1, 2, MAX}) busy("report asked " + asked, BAD, x -> x.report(1, asked, 1, 2));
        for (int least : new int[] {MIN, -1}) {
            busy("report of STOPS from " + least, BAD, x -> x.report(1, 0, least, 2));
            busy("report of DEPTH from " + least, BAD, x -> x.report(1, 1, least, 2));
        }
        for (int most : new int[] {6, 99, MAX}) busy("report of STOPS to " + most, BAD, x -> x.report(1, 0, 1, most));
        for (int most : new int[] {100, MAX}) busy("report of DEPTH to " + most, BAD, x -> x.report(1, 1, 1, most));
        busy("report of STOPS, 3 to 2", BAD, x -> x.report(1, 0, 3, 2));
        busy("report of DEPTH, 99 to 0", BAD, x -> x.report(1, 1, 99, 0));
        busy("report of DEPTH, 100 to 100", BAD, x -> x.report(1, 1, 100, 100));
        busy("report of STOPS, -1 to -1", BAD, x -> x.report(1, 0, -1, -1));
        full("report", FULL, x -> x.report(0, 0, 0, 5));
        full("report, 3 to 2", BAD, x -> x.report(0, 0, 3, 2));
        full("report of 16", BAD, x -> x.report(16, 0, 0, 5));
        due.promise(32);
        for (int what : new int[] {MIN, -1, 4, MAX}) busy("lone " + what, BAD, x -> x.lone(what));
        due.promise(33);
        busy("liar when some FIT", NONE, x -> x.liar());
        empty("liar", NONE, x -> x.liar());
    }

    private static void lots() {
        due.promise(35);
        full("lot", STATE, x -> x.lot());
        due.promise(36);
        for (int n : new int[] {MIN, -1, 0, 41, MAX}) busy("times " + n, BAD, x -> x.times(n, 1));
        for (int v : new int[] {MIN, -1, 1000, MAX}) busy("times of " + v, BAD, x -> x.times(1, v));
    }

    private static void rows() {
        for (int k : new int[] {MIN, -1, 3, 4, MAX}) {
            due.promise(38);
            busy("row " + k, NO_ROW, x -> x.row(k, 0));
            due.promise(39);
            busy("alterRow " + k, NO_ROW, x -> x.alterRow(k, 0, 1));
        }
        for (int what : new int[] {MIN, -1, 3, MAX}) {
            due.promise(38);
            busy("row what " + what, NO_ROW, x -> x.row(0, what));
            due.promise(39);
            busy("alterRow what " + what, NO_ROW, x -> x.alterRow(0, what, 1));
        }
        due.promise(38);
        empty("row 0", NO_ROW, x -> x.row(0, 0));
        due.promise(39);
        empty("alterRow 0", NO_ROW, x -> x.alterRow(0, 0, 1));
    }

    private static void sheets() {
        int[] others = {MIN, -1, 4, MAX};
        for (int sheet : others) {
            due.promise(41);
            busy("sheet " + sheet, BAD, x -> x.sheet(sheet, 0, 1));
            busy("sheet " + sheet + " missing", BAD, x -> x.sheet(sheet, -1, 1));
            busy("sheet " + sheet + " of -1", BAD, x -> x.sheet(sheet, 0, -1));
            due.promise(42);
            busy("write on " + sheet, BAD, x -> x.write(sheet, 0, 1));
            due.promise(43);
            busy("item of " + sheet, BAD, x -> x.item(sheet, 0, 0));
        }
        due.promise(41);
        for (int sort : new int[] {MIN, -2, 5, MAX}) {
            busy("sheet of sort " + sort, BAD, x -> x.sheet(0, sort, 1));
            busy("sheet of sort " + sort + " of -1", BAD, x -> x.sheet(0, sort, -1));
        }
        for (int i = 0; i <= 4; i++) {
            int sort = i;
            for (int n : new int[] {41, MAX}) busy("sheet of sort " + i + " of " + n, BAD, x -> x.sheet(0, sort, n));
            for (int n : new int[] {-1, MIN}) busy("sheet of sort " + i + " of " + n, BELOW_ZERO, x -> x.sheet(0, sort, n));
        }
        due.promise(42);
        for (int i : new int[] {MIN, -1, 5, 39, 40, MAX}) busy("write at " + i, OUTSIDE, x -> x.write(0, i, 1));
        for (int i : new int[] {-1, 0, 40}) busy("write on a missing one at " + i, NOTHING, x -> x.write(2, i, 1));
        due.promise(43);
        for (int sort : new int[] {MIN, -1, 5, MAX}) {
            busy("item of sort " + sort, BAD, x -> x.item(0, sort, 0));
            busy("item of sort " + sort + " of a missing one", BAD, x -> x.item(2, sort, 0));
        }
        for (int i : new int[] {MIN, -1, 5, 40, MAX}) {
            busy("item " + i, OUTSIDE, x -> x.item(0, 0, i));
            busy("item " + i + " of another sort", OTHER_SORT, x -> x.item(0, 1, i));
            busy("item " + i + " of a missing one", NOTHING, x -> x.item(2, 3, i));
        }
    }

    private static void itemsAsActs() {
        for (int sheet : new int[] {MIN, -1, 4, MAX}) {
            due.promise(44);
            busy("goAll of " + sheet, BAD, x -> x.goAll(sheet, 0, 1));
            due.promise(45);
            busy("wouldBe of " + sheet, BAD, x -> x.wouldBe(sheet, 0, 1));
        }
        for (int sheet = 0; sheet < 4; sheet++) {
            int one = sheet;
            for (int n : new int[] {MIN, -1, 21, MAX}) {
                due.promise(44);
                busy("goAll of " + n + " of SHEET " + sheet, BAD, x -> x.goAll(one, 0, n));
                due.promise(45);
                busy("wouldBe of " + n + " of SHEET " + sheet, BAD, x -> x.wouldBe(one, 0, n));
            }
        }
        for (int n : new int[] {0, 1, 20}) {
            for (int i : new int[] {-1, 0, 9}) {
                due.promise(44);
                busy("goAll of shorts, " + i + ", " + n, OTHER_SORT, x -> x.goAll(1, i, n));
                busy("goAll of booleans, " + i + ", " + n, OTHER_SORT, x -> x.goAll(3, i, n));
                busy("goAll of a missing one, " + i + ", " + n, NOTHING, x -> x.goAll(2, i, n));
                due.promise(45);
                busy("wouldBe of shorts, " + i + ", " + n, OTHER_SORT, x -> x.wouldBe(1, i, n));
                busy("wouldBe of booleans, " + i + ", " + n, OTHER_SORT, x -> x.wouldBe(3, i, n));
                busy("wouldBe of a missing one, " + i + ", " + n, NOTHING, x -> x.wouldBe(2, i, n));
            }
        }
        for (int i : new int[] {MIN, -20, -1, 5, 40, MAX - 1, MAX}) {
            for (int n : new int[] {1, 2, 20}) {
                due.promise(44);
                busy("goAll from " + i + " of " + n, OUTSIDE, x -> x.goAll(0, i, n));
                due.promise(45);
                busy("wouldBe from " + i + " of " + n, OUTSIDE, x -> x.wouldBe(0, i, n));
            }
        }
        due.promise(45);
        busy("wouldBe, the second is no ACT", STATE, x -> x.wouldBe(0, 0, 2));
        busy("wouldBe, the second is no ACT, the sixth outside", STATE, x -> x.wouldBe(0, 0, 6));
        busy("wouldBe, the last but one outside", OUTSIDE, x -> x.wouldBe(0, 2, 4));
        full("wouldBe", STATE, x -> x.wouldBe(0, 0, 1));
        full("wouldBe from outside", OUTSIDE, x -> x.wouldBe(0, 40, 1));
    }

    private static void shelves() {
        int[] others = {MIN, -1, 4, MAX};
        for (int shelf : others) {
            due.promise(46);
            for (int i = 0; i <= 2; i++) {
                int what = i;
                busy("shelf " + shelf + " what " + what, BAD, x -> x.shelf(shelf, what, 0));
            }
            due.promise(47);
            busy("taken from " + shelf, BAD, x -> x.taken(shelf, 0));
        }
        due.promise(46);
        for (int what : new int[] {MIN, -1, 3, MAX}) busy("shelf what " + what, BAD, x -> x.shelf(0, what, 0));
        for (int n : new int[] {MIN, -1, 3, 6, MAX}) busy("shelf with RIDER " + n, BAD, x -> x.shelf(1, 0, n));
        for (int n : others) busy("shelf with SHEET " + n, BAD, x -> x.shelf(0, 1, n));
        empty("shelf with RIDER 0", BAD, x -> x.shelf(0, 0, 0));
        due.promise(47);
        for (int shelf = 0; shelf < 4; shelf++) {
            int one = shelf;
            for (int as : new int[] {MIN, -1, 6, 7, 8, 9, 15, MAX}) busy("taken from " + shelf + " as " + as, BAD, x -> x.taken(one, as));
        }
        // SHELVES: a father, shorts, nothing, a barrier
        for (int as : new int[] {1, 4, 5, 10, 11, 14}) busy("a father as " + as, OTHER_SORT, x -> x.taken(0, as));
        for (int as : new int[] {0, 1, 2, 3, 4, 5, 10, 12, 13, 14}) busy("shorts as " + as, OTHER_SORT, x -> x.taken(1, as));
        for (int as : new int[] {0, 5, 10, 14}) busy("nothing as " + as, NOTHING, x -> x.taken(2, as));
        for (int as : new int[] {1, 2, 3, 12}) busy("a barrier as " + as, OTHER_SORT, x -> x.taken(3, as));
    }

    private static void acts() {
        due.promise(48);
        int[][] none = {{-1, 0}, {4, 0}, {MIN, 0}, {MAX, 0}, {0, -1}, {0, 4}, {0, MIN}, {0, MAX}, {1, 0}, {1, 3}, {2, 0}, {2, 2}};
        for (int[] one : none) {
            InnerCircle x = busy();
            String name = "act " + one[1] + " of SHELF " + one[0];
            due.is("there is a TRACE ahead of " + name, x.many(6) > 0 ? 1 : 0, 1);
            due.is(name, x.act(one[0], one[1], 3), 0);
            due.is("no TRACE behind " + name, x.many(6), 0);
            due.is("no body behind " + name, x.trace(0), NONE);
            due.is("RIDERS behind " + name, x.many(0), 3);
        }
        due.promise(49);
        InnerCircle x = busy();
        for (int i : new int[] {MIN, -1, x.many(6), 30, 31, MAX}) busy("trace " + i, NONE, y -> y.trace(i));
        empty("trace 0", NONE, y -> y.trace(0));
        due.promise(50);
        for (int what : new int[] {MIN, -1, 7, 8, MAX}) busy("many " + what, BAD, y -> y.many(what));
    }

    private static void kept() {
        due.promise(52);
        empty("again", NONE, x -> x.again());
        full("again", NONE, x -> x.again());
    }
}
