/** The edges that the document names, from within. Promises 41 to 52. */
final class BoundsOfHostTest {
    private static final int REGULAR = 1, LADY = 2, FATHER = 3, CLERK = 4, BARRIER = 5;
    private static final int MIN = Integer.MIN_VALUE, MAX = Integer.MAX_VALUE;
    private static final Due due = new Due("BoundsOfHostTest");

    public static void main(String[] args) {
        sheets();
        narrowed();
        items();
        goAll();
        goAllStopsOutside();
        wouldBe();
        shelves();
        taken();
        acts();
        wrapped();
        parted();
        trace();
        many();
        kept();
        keptInPart();
        due.end();
    }

    private static void sheets() {
        for (int sheet = 0; sheet < 4; sheet++) {
            for (int sort = 0; sort <= 4; sort++) {
                InnerCircle x = new InnerCircle();
                for (int n : new int[] {0, 1, 39, 40}) {
                    String name = "SHEET " + sheet + " of sort " + sort + " of " + n;
                    due.promise(41);
                    due.is(name, x.sheet(sheet, sort, n), 1);
                    for (int i = 0; i < n; i++) due.is(name + ": item " + i + " is 0", x.item(sheet, sort, i), 0);
                    due.promise(43);
                    due.is(name + ": no item", x.item(sheet, sort, n), -12);
                    due.promise(42);
                    due.is(name + ": no place", x.write(sheet, n, 1), -12);
                    for (int i = 0; i < n; i++) due.is(name + ": place " + i, x.write(sheet, i, 1), 1);
                }
                due.promise(41);
                for (int n : new int[] {MIN, -1, 0, 41, MAX}) {
                    x.sheet(sheet, sort, 2);
                    due.is("missing of " + n, x.sheet(sheet, -1, n), 1);
                    due.is("is missing", x.item(sheet, sort, 0), -11);
                    due.is("nor written", x.write(sheet, 0, 1), -11);
                }
                for (int other = 0; other < 4; other++) due.is("the others are missing still", x.item(other, sort, 0), -11);
            }
        }
    }

    private static void narrowed() {
        due.promise(42);
        int[] values = {127, 128, 255, 256, -128, -129, 32767, 32768, 65535, 65536, -32768, -32769, MIN, MAX, -1, 0, 1, 2};
        int[] bytes = {127, -128, -1, 0, -128, 127, -1, 0, -1, 0, 0, -1, 0, -1, -1, 0, 1, 2};
        int[] shorts = {127, 128, 255, 256, -128, -129, 32767, -32768, -1, 0, -32768, 32767, 0, -1, -1, 0, 1, 2};
        InnerCircle x = new InnerCircle();
        for (int sort = 0; sort <= 3; sort++) x.sheet(sort, sort, 1);
        for (int i = 0; i < values.length; i++) {
            for (int sort = 0; sort <= 3; sort++) {
                x.write(sort, 0, values[i]);
                int want = sort == 0 ? bytes[i] : sort == 1 ? shorts[i] : values[i];
                due.is(values[i] + " narrowed to sort " + sort, x.item(sort, sort, 0), want);
            }
        }
        x.sheet(0, 4, 1);
        for (int v : values) {
            x.write(0, 0, v);
            due.is(v + " as a boolean", x.item(0, 4, 0), v == 0 ? 0 : 1);
        }
    }

    private static void items() {
        due.promise(43);
        InnerCircle x = new InnerCircle();
        for (int sort = 0; sort <= 4; sort++) {
            x.sheet(0, sort, 40);
            for (int as = 0; as <= 4; as++) {
                due.is("sort " + sort + " for " + as, x.item(0, as, 39), as == sort ? 0 : -13);
                due.is("sort " + sort + " for " + as + ", outside", x.item(0, as, 40), as == sort ? -12 : -13);
            }
        }
        x.sheet(1, 2, 1);
        for (int v : new int[] {-1, -11, -12, -13}) {
            x.write(1, 0, v);
            due.is("an item as low as a refusal", x.item(1, 2, 0), v);
        }
    }

    /** Two ladies AT HOME who PAY 10 and 13, without RUSH; SHEET 0 is a row of bytes. */
    private static InnerCircle ladies(int... items) {
        InnerCircle x = Due.still(16);
        x.rider(LADY, 0, 1, 0);
        x.rider(LADY, 0, 4, 1);
        x.sheet(0, 0, items.length);
        for (int i = 0; i < items.length; i++) x.write(0, i, items[i]);
        return x;
    }

    private static void goAll() {
        due.promise(44);
        due.is("the least ACT", ladies(0).goAll(0, 0, 1), 2);
        due.is("the most", ladies(2).goAll(0, 0, 1), 14);
        InnerCircle x = ladies(3, -1, 127, -128);
        due.is("none of them is an ACT", x.goAll(0, 0, 4), 0);
        due.is("so no TRAIN goes by", x.state(0), 0);
        InnerCircle y = ladies(1);
        due.is("0 items", y.goAll(0, 0, 0), 0);
        due.is("0 items from behind the row", y.goAll(0, 1, 0), 0);
        due.is("0 items from MAX", y.goAll(0, MAX, 0), 0);
        due.is("0 items from MIN", y.goAll(0, MIN, 0), 0);
        due.is("no TRAIN", y.state(0), 0);
        InnerCircle empty = ladies();
        due.is("0 items of an empty row", empty.goAll(0, 0, 0), 0);
        due.is("1 item of an empty row", empty.goAll(0, 0, 1), -12);
        InnerCircle z = new InnerCircle();
        z.sheet(3, 0, 40);
        z.ends(16);
        due.is("20 items, the most", z.goAll(3, 20, 20), 0);
        due.is("16 TRAINS, the others are left out", z.state(0), 16);
        due.is("when it is OVER all are left out", z.goAll(3, 0, 20), 0);
        InnerCircle w = ladies(2, 1);
        w.ends(1);
        due.is("the second is left out", w.goAll(0, 0, 2), 14);
        due.is("lady 0 isn't OUT", w.state(4), 2);
    }

    private static void goAllStopsOutside() {
        due.promise(44);
        for (int from = 0; from < 3; from++) {
            InnerCircle x = ladies(1, 2, 0);
            due.is("outside behind the last one from " + from, x.goAll(0, from, 4 - from), -12);
            due.is("what stood ahead was done: TRAINS", x.state(0), 3 - from);
            due.is("what stood ahead was done: OUT", x.state(4), from == 0 ? 3 : from == 1 ? 2 : 0);
            due.is("what stood ahead was done: SCORE", x.state(2), from == 0 ? 24 : from == 1 ? 14 : 2);
        }
        InnerCircle x = ladies(1, 2, 0);
        due.is("from below nothing stands ahead", x.goAll(0, -1, 3), -12);
        due.is("no TRAIN", x.state(0), 0);
        x.ends(1);
        x.train();
        due.is("outside is outside when it is OVER, too", x.goAll(0, 0, 4), -12);
    }

    private static void wouldBe() {
        due.promise(45);
        InnerCircle x = ladies(1, 2, 0, 3, -1);
        due.is("0 items", x.wouldBe(0, 0, 0), 0);
        due.is("0 items from MAX", x.wouldBe(0, MAX, 0), 0);
        due.is("0 items from MIN", x.wouldBe(0, MIN, 0), 0);
        due.is("1", x.wouldBe(0, 0, 1), 11);
        due.is("2", x.wouldBe(0, 0, 2), 24);
        due.is("3", x.wouldBe(0, 0, 3), 24);
        due.is("3 is no ACT", x.wouldBe(0, 3, 1), -4);
        due.is("-1 is no ACT", x.wouldBe(0, 4, 1), -4);
        due.is("no ACT, then outside", x.wouldBe(0, 4, 2), -4);
        for (int end = 1; end <= 3; end++) {
            x.ends(end);
            for (int n = 1; n <= 3; n++) {
                due.is(n + " by END " + end, x.wouldBe(0, 0, n), n > end ? -4 : n == 1 ? 11 : 24);
            }
        }
        due.is("nothing changed", x.state(0) + x.state(2) + x.state(4), 0);
        InnerCircle y = new InnerCircle();
        y.sheet(0, 0, 40);
        y.ends(16);
        due.is("16 items", y.wouldBe(0, 0, 16), 0);
        due.is("17 items: it would be OVER", y.wouldBe(0, 0, 17), -4);
        due.is("20 items: it would be OVER", y.wouldBe(0, 20, 20), -4);
        due.is("16 items up to the last one", y.wouldBe(0, 24, 16), 0);
        due.is("16 items and one outside", y.wouldBe(0, 24, 17), -12);
        due.is("15 items and one outside", y.wouldBe(0, 25, 16), -12);
        InnerCircle over = ladies(0);
        over.ends(1);
        over.train();
        due.is("OVER", over.wouldBe(0, 0, 1), -4);
        due.is("OVER, 0 items", over.wouldBe(0, 0, 0), 0);
    }

    private static void shelves() {
        due.promise(46);
        for (int shelf = 0; shelf < 4; shelf++) {
            InnerCircle x = new InnerCircle();
            for (int k = 0; k < 6; k++) x.rider(LADY, 0, 0, k);
            for (int k = 0; k < 6; k++) {
                due.is("RIDER " + k + " on " + shelf, x.shelf(shelf, 0, k), 1);
                due.is("is there", x.taken(shelf, 0), k);
            }
            for (int sheet = 0; sheet < 4; sheet++) {
                x.sheet(sheet, sheet, 10 * sheet);
                due.is("SHEET " + sheet + " on " + shelf, x.shelf(shelf, 1, sheet), 1);
                due.is("is there", x.taken(shelf, 10 + sheet), 10 * sheet);
            }
            for (int n : new int[] {MIN, -1, 0, 6, MAX}) {
                x.shelf(shelf, 0, 3);
                due.is("nothing on " + shelf + ", n counts nothing: " + n, x.shelf(shelf, 2, n), 1);
                due.is("is nothing", x.taken(shelf, 0), -11);
            }
            x.shelf(shelf, 0, 3);
            x.sheet(2, -1, 0);
            due.is("a missing SHEET", x.shelf(shelf, 1, 2), 1);
            due.is("is nothing, too", x.taken(shelf, 12), -11);
            for (int other = 0; other < 4; other++) due.is("the others hold nothing", x.taken(other, 0), -11);
        }
    }

    private static void taken() {
        due.promise(47);
        InnerCircle x = new InnerCircle();
        x.sheet(0, 4, 40);
        x.shelf(0, 1, 0);
        due.is("40 items", x.taken(0, 14), 40);
        x.sheet(0, 4, 0);
        due.is("the row of before is held", x.taken(0, 14), 40);
        x.shelf(0, 1, 0);
        due.is("0 items", x.taken(0, 14), 0);
        x.rider(BARRIER, 0, 0, 0);
        x.shelf(1, 0, 0);
        int[] want = {0, -13, -13, -13, 0, 0};
        for (int as = 0; as <= 5; as++) due.is("a barrier as " + as, x.taken(1, as), want[as]);
        x.change(0, 4, 1);
        due.is("who is OUT is a thing as well", x.taken(1, 5), 0);
    }

    private static InnerCircle thing(int kind, int n, int a) {
        InnerCircle x = new InnerCircle();
        for (int k = 0; k <= n; k++) x.rider(kind, 0, 0, a);
        x.shelf(0, 0, n);
        return x;
    }

    private static void acts() {
        due.promise(48);
        // where bits of 14 are there: 3 * 5 - 1 is 14, 2 * 5 is 10
        due.is("regular: 14 ^ 14", thing(REGULAR, 1, 0).act(0, 0, 3), 0);
        due.is("regular: 10 ^ 14", thing(REGULAR, 0, 0).act(0, 0, 2), 4);
        due.is("regular: -5 ^ 14", thing(REGULAR, 0, 0).act(0, 0, -1), -11);
        due.is("lady reads: 3 * (5 - 5 + 20)", thing(LADY, 5, 5).act(0, 1, 1), 60);
        due.is("father stands: (-11 + 11) * 5", thing(FATHER, 0, 2).act(0, 0, -11), 0);
        // 3 * ((2 + 11) * 5 - 1 + 8) - 2 % 3, and 3 * ((2 + 11) * 5 - 1 + 8) once more for reads(a)
        due.is("father rises", thing(FATHER, 1, 2).act(0, 3, 2), 216 - 2 + 216);
        due.is("clerk rounds: 10 % 4 - 5", thing(CLERK, 2, 2).act(0, 2, 10), -3);
        due.is("clerk rounds: -10 % 4 - 5", thing(CLERK, 2, 2).act(0, 2, -10), -7);
        due.is("barrier reads: 0 - (15 - 2 + 8)", thing(BARRIER, 2, 2).act(0, 1, 3), -21);
        // (10 % 4 - 5) ^ (2 * 5 - 2)
        due.is("barrier rounds", thing(BARRIER, 2, 2).act(0, 2, 10), -3 ^ 8);
        due.is("barrier rises", thing(BARRIER, 2, 2).act(0, 3, 10), -(50 - 2 + 8) - (-3 ^ 8));
        InnerCircle x = thing(LADY, 2, 1);
        x.change(2, 4, 1);
        due.is("who is OUT acts as well", x.act(0, 0, 1), 3);
        x.change(2, 3, 5);
        due.is("a is its HOME by now", x.act(0, 1, 1), 3 * (3 + 20));
    }

    private static void wrapped() {
        due.promise(48);
        for (int kind = 1; kind <= 5; kind++) {
            for (int v : new int[] {MIN, MIN + 1, MAX, MAX - 10, 1 << 30, -(1 << 30), 429496730, 0, -1}) {
                InnerCircle x = thing(kind, 3, 2);
                int stands = kind == 3 ? (v + 11) * 5 - 3 : v * 5 - 3;
                if (kind == 1) stands ^= 14;
                int reads = stands + 8;
                if (kind == 2 || kind == 3) reads *= 3;
                if (kind == 5) reads = -reads;
                int rounds = v % 5;
                if (kind > 3) rounds -= 5;
                if (kind == 5) rounds ^= 12;
                int rises = reads - rounds;
                if (kind == 3) rises += (13 * 5 - 3 + 8) * 3;
                String name = "KIND " + kind + " with " + v;
                due.is(name + " stands", x.act(0, 0, v), stands);
                due.is(name + " reads", x.act(0, 1, v), reads);
                due.is(name + " rounds", x.act(0, 2, v), rounds);
                due.is(name + " rises", x.act(0, 3, v), rises);
            }
        }
    }

    private static void parted() {
        due.promise(48);
        for (int n = 0; n < 6; n++) {
            for (int a = 0; a < 6; a++) {
                int by = n - a + 4;
                for (int v : new int[] {MIN, -7, 0, 7, MAX}) {
                    String name = "n " + n + ", a " + a + ", x " + v;
                    InnerCircle x = thing(LADY, n, a);
                    int want = by == 0 ? -15 : (int) ((long) v % by);
                    due.is("lady rounds, " + name, x.act(0, 2, v), want);
                    due.is("clerk rounds, " + name, thing(CLERK, n, a).act(0, 2, v), by == 0 ? -15 : want - 5);
                    due.is("barrier rounds, " + name, thing(BARRIER, n, a).act(0, 2, v), by == 0 ? -15 : want - 5 ^ 4 * n);
                    due.is("lady rises, " + name, x.act(0, 3, v), by == 0 ? -15 : (v * 5 - n + 4 * a) * 3 - want);
                    due.is("lady stands, " + name, x.act(0, 0, v), v * 5 - n);
                }
            }
        }
        InnerCircle x = thing(BARRIER, 0, 4);
        due.promise(49);
        x.act(0, 2, 1);
        due.is("parted by 0: stands doesn't begin: " + Due.bodies(x), Due.bodies(x).equals("61 40 12") ? 1 : 0, 1);
        x.act(0, 0, 1);
        due.is("and then it stands: " + Due.bodies(x), Due.bodies(x).equals("10") ? 1 : 0, 1);
    }

    private static void trace() {
        due.promise(49);
        InnerCircle x = thing(FATHER, 0, 0);
        x.act(0, 3, 1);
        due.is("the longest of all: " + Due.bodies(x), Due.bodies(x).equals("51 13 30 11 50 10 12 30 11 50 10") ? 1 : 0, 1);
        due.is("the last one", x.trace(10), 10);
        due.is("behind it", x.trace(11), -3);
        x.act(0, 2, 1);
        due.is("in place of it", x.trace(0), 12);
        due.is("one alone", x.trace(1), -3);
        x.rider(CLERK, 0, 0, 0);
        x.shelf(1, 0, 1);
        x.act(1, 2, 1);
        due.is("another thing's", x.trace(0), 40);
        x.shelf(1, 2, 0);
        due.is("the SHELF is bare, THE TRACE stays", x.trace(1), 12);
        x.act(1, 2, 1);
        due.is("nothing acts: none", x.trace(0), -3);
    }

    private static void many() {
        due.promise(50);
        InnerCircle x = new InnerCircle();
        for (int k = 0; k < 6; k++) {
            due.is("RIDERS", x.many(0), k);
            x.rider(LADY, 0, 9, k);
            due.is("REPORTS", x.many(3), k);
            x.report(0, 0, 0, 0);
        }
        due.is("six RIDERS", x.many(0), 6);
        due.is("six REPORTS", x.many(3), 6);
        for (int k = 0; k < 6; k++) {
            due.is("OUT", x.many(2), k);
            x.train();
        }
        due.is("all are OUT", x.many(2), 6);
        for (int n = 0; n <= 4; n++) {
            x.prove(n);
            due.is("ROWS", x.many(4), n);
        }
        StringBuilder text = new StringBuilder();
        for (int rules = 0; rules <= 8; rules++) {
            Due.rules(x, text.toString());
            due.is("RULES", x.many(1), rules);
            text.append("lady stay;");
        }
        for (int i = 1; i <= 25; i++) {
            x.feed(0, 8);
            due.is("bytes", x.many(5), 8 * i);
        }
    }

    private static void kept() {
        due.promise(52);
        InnerCircle x = new InnerCircle();
        due.is("nothing is kept", x.again(), -3);
        due.promise(51);
        due.is("a new one is kept", x.keep(), 1);
        for (int k = 0; k < 6; k++) x.rider(LADY, 0, 0, k);
        due.promise(52);
        due.is("no RIDERS again", x.again(), 0);
        due.is("many", x.many(0), 0);
        due.is("nobody OUT", x.state(4), 0);
        for (int k = 0; k < 6; k++) x.rider(CLERK, 9, 8, k);
        due.promise(51);
        x.keep();
        due.promise(52);
        due.is("six RIDERS again", x.again(), 6);
        due.is("none more", x.rider(LADY, 0, 0, 0), -2);
    }

    private static void keptInPart() {
        due.promise(52);
        InnerCircle x = Due.still(16);
        x.rider(LADY, 7, 5, 3);
        x.rider(CLERK, 8, 6, 4);
        for (int i = 0; i < 6; i++) x.report(i, 1, i, 90 - i);
        x.report(0, 0, 0, 0);
        Due.rules(x, "lady if depth>5 stay;clerk if train<3 ride;rider exit;");
        x.train();
        x.keep();
        int fits = x.lone(0);
        x.forget();
        for (int i = 0; i < 6; i++) x.report(15 - i, 0, 5 - i, 5);
        Due.rules(x, "clerk if 1=2 and 1=2 or 3=3 and not 4=5 stay;rider ride;");
        for (int train = 0; train < 16; train++) x.crowd(train, 15 - train);
        for (int f = 0; f < 6; f++) {
            x.home(f, 0, 9 - f);
            x.home(f, 1, f + 1);
        }
        x.remake(0, BARRIER);
        x.change(1, 4, 1);
        due.is("two again", x.again(), 2);
        due.is("six REPORTS again", x.many(3), 6);
        due.is("which FIT as they did", x.lone(0), fits);
        due.is("three RULES again", x.many(1), 3);
        due.is("for a lady", x.riderOf(0, 10), 2);
        due.is("for a clerk", x.riderOf(1, 10), 1);
        x.change(0, 1, 5);
        due.is("for a lady less deep", x.riderOf(0, 10), 0);
        due.is("KIND", x.riderOf(0, 0), LADY);
        due.is("OUT", x.state(4), 0);
        for (int train = 0; train < 16; train++) due.is("CROWD", x.crowd(train, 0), 0);
        for (int f = 0; f < 6; f++) due.is("GARDEN and POSTER", x.homeOf(f, 0) + x.homeOf(f, 1), 0);
        x.forget();
        due.is("what is kept stays", x.again(), 2);
        due.is("six REPORTS still", x.many(3), 6);
        for (int i = 0; i < 6; i++) {
            // each REPORT of its own: but for DEPTH in another place all of them are so
            InnerCircle y = Due.still(16);
            y.report(i, 1, i, 90 - i);
            int alone = y.lone(0);
            y.keep();
            y.forget();
            y.report(15, 1, 99, 99);
            y.again();
            due.is("REPORT " + i + " again", y.lone(0), alone);
        }
    }
}
