/** Promises 41 to 52: the host, what is kept. */
final class HostTest {
    private static final int REGULAR = 1, LADY = 2, FATHER = 3, CLERK = 4, BARRIER = 5;
    private static final int MIN = Integer.MIN_VALUE, MAX = Integer.MAX_VALUE;
    private static final Due due = new Due("HostTest");

    public static void main(String[] args) {
        sheet();
        write();
        item();
        goAll();
        wouldBe();
        shelf();
        taken();
        takenByKind();
        act();
        parted();
        trace();
        many();
        keep();
        keptThings();
        due.end();
    }

    private static void sheet() {
        due.promise(41);
        InnerCircle x = new InnerCircle();
        due.is("sheet 4", x.sheet(4, 0, 1), -1);
        due.is("sheet -1", x.sheet(-1, 0, 1), -1);
        due.is("sort 5", x.sheet(0, 5, 1), -1);
        due.is("sort -2", x.sheet(0, -2, 1), -1);
        due.is("n 41", x.sheet(0, 0, 41), -1);
        due.is("n -1", x.sheet(0, 0, -1), -14);
        due.is("n MIN", x.sheet(0, 0, MIN), -14);
        due.is("no such sort comes ahead of n -1", x.sheet(0, 5, -1), -1);
        due.is("missing still", x.write(0, 0, 1), -11);
        due.is("n 40", x.sheet(0, 0, 40), 1);
        due.is("the last item", x.write(0, 39, 1), 1);
        due.is("n 0", x.sheet(1, 3, 0), 1);
        due.is("no item", x.write(1, 0, 1), -12);
        due.is("refused: nothing changes", x.sheet(0, 0, -1) + x.item(0, 0, 39), -13);
        due.is("anew", x.sheet(0, 0, 40), 1);
        due.is("all 0", x.item(0, 0, 39), 0);
        due.is("missing, whatever n is", x.sheet(0, -1, MIN), 1);
        due.is("missing, whatever n is", x.sheet(0, -1, MAX), 1);
        due.is("is missing", x.item(0, 0, 0), -11);
    }

    private static void write() {
        due.promise(42);
        InnerCircle x = new InnerCircle();
        due.is("missing", x.write(0, 0, 1), -11);
        due.is("sheet 4", x.write(4, 0, 1), -1);
        due.is("sheet -1", x.write(-1, 0, 1), -1);
        int[] values = {300, -300, 40000, MIN, MAX, 0, 1, 256, 65536, 128, 32768};
        for (int sort = 0; sort <= 4; sort++) {
            x.sheet(2, sort, 2);
            for (int v : values) {
                int want = sort == 0 ? (byte) v : sort == 1 ? (short) v : sort == 4 ? (v != 0 ? 1 : 0) : v;
                due.is("write " + v + " of sort " + sort, x.write(2, 1, v), 1);
                due.is("item " + v + " of sort " + sort, x.item(2, sort, 1), want);
                due.is("the other item of sort " + sort, x.item(2, sort, 0), 0);
            }
        }
        due.is("place 2", x.write(2, 2, 1), -12);
        due.is("place -1", x.write(2, -1, 1), -12);
        due.is("place MAX", x.write(2, MAX, 1), -12);
        due.is("place MIN", x.write(2, MIN, 1), -12);
    }

    private static void item() {
        due.promise(43);
        InnerCircle x = new InnerCircle();
        x.sheet(1, 2, 3);
        x.write(1, 2, -12);
        due.is("an item as low as a refusal", x.item(1, 2, 2), -12);
        due.is("of another sort", x.item(1, 1, 2), -13);
        due.is("of another sort, outside", x.item(1, 3, 9), -13);
        due.is("outside", x.item(1, 2, 3), -12);
        due.is("outside below", x.item(1, 2, -1), -12);
        due.is("missing", x.item(0, 4, 9), -11);
        due.is("sheet 4", x.item(4, 0, 0), -1);
        due.is("sheet -1", x.item(-1, 0, 0), -1);
        due.is("sort 5", x.item(1, 5, 0), -1);
        due.is("sort -1", x.item(1, -1, 0), -1);
        due.is("sort -1 of one missing", x.item(0, -1, 0), -1);
    }

    /** SHEET 0: 2, 9, 1, -1, 0 over two ladies who PAY 10 and 13, without RUSH; SHEETS 1 shorts, 2 missing. */
    private static InnerCircle acts() {
        InnerCircle x = new InnerCircle();
        for (int train = 0; train < 16; train++) x.crowd(train, 0);
        x.rider(LADY, 0, 1, 0);
        x.rider(LADY, 0, 4, 1);
        int[] items = {2, 9, 1, -1, 0};
        x.sheet(0, 0, 5);
        for (int i = 0; i < 5; i++) x.write(0, i, items[i]);
        x.sheet(1, 1, 5);
        return x;
    }

    private static void goAll() {
        due.promise(44);
        InnerCircle x = acts();
        due.is("sheet 4", x.goAll(4, 0, 1), -1);
        due.is("sheet -1", x.goAll(-1, 0, 1), -1);
        due.is("n 21", x.goAll(0, 0, 21), -1);
        due.is("n -1", x.goAll(0, 0, -1), -1);
        due.is("shorts", x.goAll(1, 0, 1), -13);
        due.is("missing", x.goAll(2, 0, 1), -11);
        due.is("n 21 of one missing", x.goAll(2, 0, 21), -1);
        due.is("none", x.goAll(0, 0, 0), 0);
        due.is("none from outside", x.goAll(0, 99, 0), 0);
        due.is("outside", x.goAll(0, 5, 1), -12);
        due.is("outside below", x.goAll(0, -1, 3), -12);
        due.is("outside, MAX", x.goAll(0, MAX, 2), -12);
        due.is("no TRAIN yet", x.state(0), 0);
        // 13 and 1 for lady 0 AT HOME; 9 is no ACT; TRAIN 1: 10; -1 is no ACT; TRAIN 2: 0
        due.is("all five", x.goAll(0, 0, 5), 24);
        due.is("three TRAINS", x.state(0), 3);
        due.is("SCORE", x.state(2), 24);
        x.anew();
        due.is("what stood ahead was done", x.goAll(0, 2, 9), -12);
        due.is("two TRAINS", x.state(0), 2);
        due.is("SCORE of lady 0, and 1 for lady 1", x.state(2), 11);
        x.anew();
        x.ends(1);
        due.is("when it is OVER they are left out", x.goAll(0, 0, 5), 14);
        due.is("and outside is outside", x.goAll(0, 0, 6), -12);
        due.is("one TRAIN", x.state(0), 1);
        InnerCircle y = new InnerCircle();
        y.ends(16);
        y.sheet(3, 0, 40);
        due.is("20 items", y.goAll(3, 20, 20), 0);
        due.is("16 TRAINS", y.state(0), 16);
    }

    private static void wouldBe() {
        due.promise(45);
        InnerCircle x = acts();
        due.is("sheet 4", x.wouldBe(4, 0, 1), -1);
        due.is("sheet -1", x.wouldBe(-1, 0, 1), -1);
        due.is("n 21", x.wouldBe(0, 0, 21), -1);
        due.is("n -1", x.wouldBe(0, 0, -1), -1);
        due.is("shorts", x.wouldBe(1, 0, 1), -13);
        due.is("missing", x.wouldBe(2, 0, 1), -11);
        due.is("none", x.wouldBe(0, 0, 0), 0);
        due.is("none from outside", x.wouldBe(0, -7, 0), 0);
        due.is("one", x.wouldBe(0, 0, 1), 14);
        due.is("9 is no ACT", x.wouldBe(0, 0, 2), -4);
        due.is("no ACT ahead of outside", x.wouldBe(0, 3, 9), -4);
        due.is("outside", x.wouldBe(0, 4, 2), -12);
        due.is("outside below", x.wouldBe(0, -1, 1), -12);
        due.is("outside, MAX", x.wouldBe(0, MAX, 20), -12);
        x.sheet(3, 0, 3);
        x.write(3, 0, 1);
        x.write(3, 1, 2);
        due.is("two", x.wouldBe(3, 0, 2), 24);
        due.is("nothing changed", x.state(0) + x.state(2) + x.state(4), 0);
        x.ends(2);
        due.is("OVER ahead of the third", x.wouldBe(3, 0, 3), -4);
        due.is("OVER ahead of outside", x.wouldBe(3, 0, 4), -4);
        x.ends(3);
        due.is("outside behind the third", x.wouldBe(3, 0, 4), -12);
        x.train();
        due.is("from how it is now", x.wouldBe(3, 0, 1), 0);
        due.is("none when it is OVER", over(x).wouldBe(3, 0, 0), 0);
        due.is("one when it is OVER", x.wouldBe(3, 0, 1), -4);
        due.is("outside when it is OVER", x.wouldBe(3, 3, 1), -12);
    }

    private static InnerCircle over(InnerCircle x) {
        x.ends(x.state(0));
        return x;
    }

    private static void shelf() {
        due.promise(46);
        InnerCircle x = new InnerCircle();
        x.rider(CLERK, 0, 0, 0);
        due.is("shelf 4", x.shelf(4, 0, 0), -1);
        due.is("shelf -1", x.shelf(-1, 0, 0), -1);
        due.is("what 3", x.shelf(0, 3, 0), -1);
        due.is("what -1", x.shelf(0, -1, 0), -1);
        due.is("no such RIDER", x.shelf(0, 0, 1), -1);
        due.is("nor this", x.shelf(0, 0, -1), -1);
        due.is("no such SHEET", x.shelf(0, 1, 4), -1);
        due.is("nor this", x.shelf(0, 1, -1), -1);
        due.is("nothing still", x.taken(0, 0), -11);
        due.is("a RIDER", x.shelf(0, 0, 0), 1);
        due.is("refused: nothing changes", x.shelf(0, 0, 1), -1);
        due.is("holds it", x.taken(0, 0), 0);
        due.is("a row", x.sheet(3, 4, 7), 1);
        due.is("on the SHELF", x.shelf(3, 1, 3), 1);
        due.is("holds it", x.taken(3, 14), 7);
        due.is("nothing", x.shelf(3, 2, 0), 1);
        due.is("holds nothing", x.taken(3, 14), -11);
        due.is("a row again", x.shelf(3, 1, 3), 1);
        due.is("a missing one", x.shelf(3, 1, 0), 1);
        due.is("is nothing", x.taken(3, 14), -11);
        due.is("also as a KIND", x.taken(3, 0), -11);
    }

    private static void taken() {
        due.promise(47);
        InnerCircle x = new InnerCircle();
        x.rider(REGULAR, 0, 0, 0);
        x.shelf(0, 0, 0);
        for (int sort = 0; sort <= 4; sort++) {
            x.sheet(0, sort, 3 + sort);
            x.shelf(1, 1, 0);
            for (int as = 10; as <= 14; as++) due.is("sort " + sort + " as " + as, x.taken(1, as), as - 10 == sort ? 3 + sort : -13);
            due.is("a row as a thing", x.taken(1, 0), -13);
            due.is("a row as a thing of KIND 4", x.taken(1, 4), -13);
        }
        due.is("a RIDER as a row", x.taken(0, 10), -13);
        due.is("nothing as a row", x.taken(2, 12), -11);
        due.is("nothing as a thing", x.taken(2, 3), -11);
        due.is("shelf 4", x.taken(4, 0), -1);
        due.is("shelf -1", x.taken(-1, 0), -1);
        due.is("as 6", x.taken(0, 6), -1);
        due.is("as 9", x.taken(0, 9), -1);
        due.is("as 15", x.taken(0, 15), -1);
        due.is("as -1", x.taken(0, -1), -1);
        due.is("as 6 of nothing", x.taken(2, 6), -1);
        x.sheet(0, 1, 9);
        due.is("the SHEET is another row now, the SHELF holds the one from before", x.taken(1, 14), 7);
        x.sheet(0, -1, 0);
        due.is("it is missing now, the SHELF holds the row", x.taken(1, 14), 7);
    }

    private static void takenByKind() {
        due.promise(47);
        InnerCircle x = new InnerCircle();
        for (int kind = 1; kind <= 5; kind++) x.rider(kind, 0, 0, 0);
        int[] sets = {0, 1, 1 << 2, 1 << 2 | 1 << 3, 1 << 4, 1 << 4 | 1 << 5};
        for (int kind = 1; kind <= 5; kind++) {
            x.shelf(0, 0, kind - 1);
            for (int as = 0; as <= 5; as++) {
                boolean is = as == 0 || as == kind || (sets[kind] >> as & 1) != 0;
                due.is("kind " + kind + " as " + as, x.taken(0, as), is ? kind - 1 : -13);
            }
        }
        x.shelf(0, 0, 1);
        x.remake(1, CLERK);
        due.is("as what it is by now", x.taken(0, CLERK), 1);
        due.is("no lady any more", x.taken(0, LADY), -13);
    }

    private static void act(int kind, int act, int x, int want, String bodies) {
        // RIDER 2 with HOME 1: n 2, a 1, so x leaves by 5
        InnerCircle circle = new InnerCircle();
        for (int i = 0; i < 3; i++) circle.rider(kind, 0, 0, 1);
        circle.shelf(1, 0, 2);
        due.promise(48);
        due.is("act " + act + " of kind " + kind + " with " + x, circle.act(1, act, x), want);
        due.promise(49);
        due.is("TRACE is " + Due.bodies(circle) + ", due is " + bodies, Due.bodies(circle).equals(bodies) ? 1 : 0, 1);
    }

    private static void act() {
        act(REGULAR, 0, 7, 33 ^ 14, "20 10");
        act(REGULAR, 1, 7, (33 ^ 14) + 4, "11 20 10");
        act(REGULAR, 2, 7, 2, "12");
        act(REGULAR, 2, -7, -2, "12");
        act(REGULAR, 3, 7, (33 ^ 14) + 4 - 2, "13 11 20 10 12");
        act(LADY, 0, 7, 33, "10");
        act(LADY, 1, 7, 111, "30 11 10");
        act(LADY, 2, 7, 2, "12");
        act(LADY, 3, 7, 109, "13 30 11 10 12");
        act(FATHER, 0, 7, 88, "50 10");
        act(FATHER, 1, 7, 276, "30 11 50 10");
        act(FATHER, 2, 7, 2, "12");
        act(FATHER, 3, 7, 274 + 3 * (58 + 4), "51 13 30 11 50 10 12 30 11 50 10");
        act(CLERK, 0, 7, 33, "10");
        act(CLERK, 1, 7, 37, "11 10");
        act(CLERK, 2, 7, -3, "40 12");
        act(CLERK, 3, 7, 40, "13 11 10 40 12");
        act(BARRIER, 0, 7, 33, "10");
        act(BARRIER, 1, 7, -37, "60 11 10");
        act(BARRIER, 2, 7, -3 ^ 8, "61 40 12 10");
        act(BARRIER, 3, 7, -37 - (-3 ^ 8), "13 60 11 10 61 40 12 10");
        act(FATHER, 0, MAX, (MAX + 11) * 5 - 2, "50 10");
        act(LADY, 1, MIN, (MIN * 5 - 2 + 4) * 3, "30 11 10");
        due.promise(48);
        InnerCircle x = new InnerCircle();
        x.rider(LADY, 0, 0, 0);
        x.shelf(0, 0, 0);
        x.sheet(0, 0, 3);
        x.shelf(1, 1, 0);
        int[][] none = {{4, 0}, {-1, 0}, {0, 4}, {0, -1}, {1, 0}, {2, 0}};
        for (int[] one : none) {
            due.is("it acts", x.act(0, 1, 1), 15);
            due.is("SHELF " + one[0] + ", act " + one[1], x.act(one[0], one[1], 1), 0);
            due.is("no TRACE then", x.many(6), 0);
            due.is("no body", x.trace(0), -3);
        }
    }

    private static void parted() {
        due.promise(48);
        int[] kinds = {REGULAR, LADY, FATHER, CLERK, BARRIER};
        String[] rounds = {"12", "12", "12", "40 12", "61 40 12"};
        String[] rises = {"13 11 20 10 12", "13 30 11 10 12", "51 13 30 11 50 10 12", "13 11 10 40 12", "13 60 11 10 61 40 12"};
        for (int i = 0; i < 5; i++) {
            InnerCircle x = new InnerCircle();
            // n 0, a 4: n - a + 4 is 0
            x.rider(kinds[i], 0, 0, 4);
            x.shelf(0, 0, 0);
            due.is("rounds of " + kinds[i], x.act(0, 2, 9), -15);
            due.is("bodies " + Due.bodies(x), Due.bodies(x).equals(rounds[i]) ? 1 : 0, 1);
            due.is("rises of " + kinds[i], x.act(0, 3, 9), -15);
            due.is("bodies " + Due.bodies(x), Due.bodies(x).equals(rises[i]) ? 1 : 0, 1);
            due.is("stands of " + kinds[i], x.act(0, 0, 0) >= 0 ? 1 : 0, 1);
            // a 5: what x leaves by -1 is 0
            x.change(0, 3, 5);
            x.remake(0, LADY);
            due.is("by -1", x.act(0, 2, MIN), 0);
            x.change(0, 3, 0);
            due.is("by 4", x.act(0, 2, -7), -3);
        }
    }

    private static void trace() {
        due.promise(49);
        InnerCircle x = new InnerCircle();
        due.is("none yet", x.trace(0), -3);
        x.rider(BARRIER, 0, 0, 0);
        x.shelf(0, 0, 0);
        x.act(0, 1, 1);
        due.is("first", x.trace(0), 60);
        due.is("third", x.trace(2), 10);
        due.is("fourth", x.trace(3), -3);
        due.is("-1", x.trace(-1), -3);
        due.is("MIN", x.trace(MIN), -3);
        due.is("MAX", x.trace(MAX), -3);
        x.remake(0, LADY);
        x.anew();
        due.is("of the latest act() still", x.trace(0), 60);
        x.act(0, 1, 1);
        due.is("of the latest act() now", x.trace(0), 30);
    }

    private static void many() {
        due.promise(50);
        InnerCircle x = new InnerCircle();
        x.rider(LADY, 0, 0, 0);
        x.rider(LADY, 0, 0, 1);
        Due.rules(x, "lady exit;lady ride;lady stay;");
        x.train();
        x.report(0, 0, 0, 0);
        x.report(0, 0, 0, 0);
        x.prove(4);
        x.feed(0, 5);
        x.shelf(0, 0, 0);
        x.act(0, 1, 1);
        int[] want = {2, 3, 1, 2, 4, 5, 3};
        for (int what = 0; what < 7; what++) due.is("what " + what, x.many(what), want[what]);
        due.is("what 7", x.many(7), -1);
        due.is("what -1", x.many(-1), -1);
    }

    private static void keep() {
        due.promise(51);
        InnerCircle x = new InnerCircle();
        due.is("nothing is kept", x.again(), -3);
        x.rider(LADY, 5, 6, 1);
        x.crowd(3, 9);
        x.home(2, 0, 8);
        x.home(2, 1, 7);
        x.ends(9);
        x.seed(44);
        Due.rules(x, "rider if depth>5 stay;");
        x.report(0, 0, 1, 1);
        x.train();
        due.is("keep", x.keep(), 1);
        int[] was = look(x);
        x.rider(FATHER, 5, 6, 1);
        x.change(0, 1, 33);
        x.change(0, 2, 1);
        x.change(0, 3, 2);
        x.change(0, 4, 1);
        x.change(0, 5, 3);
        x.remake(0, CLERK);
        x.crowd(3, 1);
        x.home(2, 0, 1);
        x.home(2, 1, 1);
        x.ends(14);
        x.seed(45);
        Due.rules(x, "");
        x.report(0, 0, 2, 2);
        x.train();
        due.promise(52);
        due.is("again", x.again(), 1);
        due.is("all is as it was", same(look(x), was), 1);
        x.forget();
        x.train();
        due.is("it stays", x.again(), 1);
        due.is("all is as it was again", same(look(x), was), 1);
        x.train();
        due.promise(51);
        due.is("keep what is latest", x.keep(), 1);
        x.anew();
        due.promise(52);
        due.is("again the latest", x.again(), 1);
        due.is("TRAIN", x.state(0), 2);
    }

    private static int[] look(InnerCircle x) {
        int[] seen = new int[64];
        int n = 0;
        for (int what = 0; what <= 10; what++) seen[n++] = x.riderOf(0, what);
        for (int what = 0; what <= 6; what++) seen[n++] = x.state(what);
        for (int train = 0; train < 16; train++) {
            seen[n] = x.crowd(train, 0);
            x.crowd(train, seen[n++]);
        }
        seen[n++] = x.homeOf(2, 0);
        seen[n++] = x.homeOf(2, 1);
        seen[n] = x.seed(0);
        x.seed(seen[n++]);
        seen[n++] = x.many(0);
        seen[n++] = x.many(1);
        seen[n++] = x.many(3);
        seen[n++] = x.lone(0);
        seen[n++] = x.lone(2);
        return seen;
    }

    private static int same(int[] one, int[] other) {
        return java.util.Arrays.equals(one, other) ? 1 : 0;
    }

    private static void keptThings() {
        due.promise(51);
        InnerCircle x = new InnerCircle();
        x.rider(LADY, 0, 0, 0);
        x.keep();
        x.rider(CLERK, 0, 0, 0);
        x.feed(0, 3);
        x.prove(2);
        x.sheet(0, 2, 6);
        x.write(0, 5, 77);
        x.shelf(0, 0, 1);
        x.shelf(1, 1, 0);
        x.act(0, 2, 3);
        due.promise(52);
        due.is("again", x.again(), 1);
        due.is("THE TAPE isn't kept", x.many(5), 3);
        due.is("nor ROWS", x.many(4), 2);
        due.is("nor SHEETS", x.item(0, 2, 5), 77);
        due.is("nor SHELVES", x.taken(1, 12), 6);
        due.is("nor THE TRACE", x.trace(0), 40);
        due.is("a SHELF with one who isn't there", x.taken(0, 0), -11);
        due.is("doesn't act", x.act(0, 0, 1), 0);
        due.is("and leaves no TRACE", x.many(6), 0);
        due.is("one comes again", x.rider(BARRIER, 0, 0, 0), 1);
        due.is("and the SHELF holds it", x.taken(0, BARRIER), 1);
    }
}
