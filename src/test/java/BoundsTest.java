/** The edges that the document names, from within: least and most, empty and full, what wraps around. Promises 1 to 22. */
final class BoundsTest {
    private static final int REGULAR = 1, LADY = 2, FATHER = 3, CLERK = 4, BARRIER = 5;
    private static final Due due = new Due("BoundsTest");

    public static void main(String[] args) {
        newObject();
        riders();
        sinks();
        drifts();
        paysAndMay();
        changes();
        crowdsAndHomes();
        ends();
        anew();
        states();
        tape();
        texts();
        faults();
        faultsAtTheEnd();
        names();
        rulesInTurn();
        factsAtTheEnd();
        lampsByTrain();
        rides();
        sinkingTo99();
        drifting();
        rest();
        wishes();
        lost();
        reach();
        carriages();
        press();
        due.end();
    }

    private static void newObject() {
        due.promise(1);
        InnerCircle x = new InnerCircle();
        due.is("no RULES: one exits", x.rider(REGULAR, 0, 0, 0) + x.riderOf(0, 10), 0);
        due.is("no REPORTS: all FIT", x.lone(0), 300);
        due.is("nothing is kept", x.again(), -3);
        due.is("no ROWS: all is right", x.judge(), 0);
        InnerCircle y = new InnerCircle();
        due.is("no RIDERS: nobody OUT", y.state(4), 0);
        due.is("no RIDERS: nobody AT HOME", y.state(6), 0);
        due.is("no RIDERS: on", y.on(16), 0);
        due.is("no RIDERS: 12 TRAINS", trainsOf(y), 12);
        due.is("no RIDERS: SCORE", y.state(2), 0);
    }

    /** How many TRAINS go by till it is OVER. */
    private static int trainsOf(InnerCircle x) {
        for (int trains = 0; trains < 99; trains++) {
            if (x.train() == -4) return trains;
        }
        return 99;
    }

    private static void riders() {
        due.promise(2);
        InnerCircle x = new InnerCircle();
        due.is("the least of all", x.rider(1, 0, 0, 0), 0);
        due.is("the most of all", x.rider(5, 99, 9, 5), 1);
        int[] least = {1, 0, 0, 0, 0, 0}, most = {5, 99, 9, 5, 0, 5};
        for (int what = 0; what <= 5; what++) {
            due.is("least, what " + what, x.riderOf(0, what), least[what]);
            due.is("most, what " + what, x.riderOf(1, what), most[what]);
        }
        InnerCircle y = new InnerCircle();
        y.ends(1);
        y.train();
        due.is("one comes when it is OVER", y.rider(LADY, 3, 4, 2), 0);
        due.is("AT its HOME", y.riderOf(0, 5), 2);
        due.is("not OUT", y.riderOf(0, 4), 0);
        InnerCircle z = new InnerCircle();
        z.rider(LADY, 0, 0, 0);
        z.keep();
        z.rider(LADY, 0, 0, 0);
        z.change(1, 4, 1);
        z.change(1, 5, 4);
        z.again();
        due.is("one comes in place of one who was OUT", z.rider(CLERK, 1, 2, 3), 1);
        due.is("it isn't OUT", z.riderOf(1, 4), 0);
        due.is("it is AT its HOME", z.riderOf(1, 5), 3);
    }

    private static void sinks() {
        due.promise(3);
        InnerCircle x = new InnerCircle();
        x.ends(16);
        for (int kind = 1; kind <= 5; kind++) x.rider(kind, 0, 0, kind);
        x.rider(CLERK, 0, 0, 0);
        int[][] want = new int[5][16];
        for (int crowd = 0; crowd < 16; crowd++) {
            int rush = crowd / 4, lamps = crowd % 4;
            want[0][crowd] = lamps == 0 ? 1 : 0;
            want[1][crowd] = 2 * rush;
            want[2][crowd] = 2 * rush + 3;
            want[3][crowd] = rush > lamps ? rush - lamps : 0;
            want[4][crowd] = want[3][crowd] / 2;
        }
        for (int crowd = 0; crowd < 16; crowd++) {
            x.crowd(0, crowd);
            for (int k = 0; k < 5; k++) due.is("alone, kind " + (k + 1) + " by CROWD " + crowd, x.riderOf(k, 6), want[k][crowd]);
        }
        x.crowd(0, 3);
        for (int k = 0; k < 5; k++) x.change(k, 5, 0);
        // five OTHERS each
        due.is("regular, five OTHERS", x.riderOf(0, 6), 0);
        due.is("lady, five OTHERS", x.riderOf(1, 6), 10);
        due.is("father, five OTHERS", x.riderOf(2, 6), 13);
        due.is("clerk, five OTHERS, three LAMPS", x.riderOf(3, 6), 2);
        due.is("barrier: half of 2", x.riderOf(4, 6), 1);
        x.change(0, 5, 1);
        due.is("clerk, four OTHERS, three LAMPS", x.riderOf(3, 6), 1);
        due.is("barrier: half of 1, cut", x.riderOf(4, 6), 0);
        x.change(1, 5, 1);
        due.is("clerk: as many LAMPS as OTHERS", x.riderOf(3, 6), 0);
        for (int k = 0; k < 6; k++) x.change(k, 4, 1);
        due.is("lady, all OUT: no OTHERS", x.riderOf(1, 6), 0);
        due.is("clerk, all OUT: no OTHERS", x.riderOf(3, 6), 0);
        x.crowd(15, 15);
        for (int train = 0; train < 16; train++) x.train();
        due.is("behind TRAIN 15 there are no LAMPS: regular", x.riderOf(0, 6), 1);
        due.is("behind TRAIN 15 there is no RUSH: lady", x.riderOf(1, 6), 0);
        due.is("behind TRAIN 15: father", x.riderOf(2, 6), 3);
    }

    private static void drifts() {
        due.promise(3);
        InnerCircle x = Due.still(16);
        x.rider(BARRIER, 0, 0, 0);
        for (int train = 0; train < 7; train++) x.train();
        due.is("barrier in TRAIN 7", x.riderOf(0, 7), 0);
        x.train();
        due.is("barrier in TRAIN 8, above 7", x.riderOf(0, 7), 3);
        x.train();
        due.is("barrier in TRAIN 9", x.riderOf(0, 7), 2);
    }

    private static void paysAndMay() {
        due.promise(3);
        InnerCircle x = new InnerCircle();
        x.rider(REGULAR, 0, 0, 0);
        int[] depths = {0, 6, 7, 13, 14, 62, 63, 98, 99}, want = {9, 9, 8, 8, 7, 1, 0, 0, 0};
        for (int i = 0; i < depths.length; i++) {
            x.change(0, 1, depths[i]);
            due.is("PAYS " + depths[i] + " deep", x.riderOf(0, 8), want[i]);
            due.is("MAY " + depths[i] + " deep", x.riderOf(0, 9), want[i] > 0 ? 1 : 0);
            due.is("WILL " + depths[i] + " deep", x.riderOf(0, 10), 0);
        }
        x.home(0, 0, 9);
        x.change(0, 2, 9);
        x.change(0, 1, 0);
        due.is("the most that one PAYS", x.riderOf(0, 8), 27);
        x.change(0, 4, 1);
        due.is("OUT it PAYS 0", x.riderOf(0, 8), 0);
        x.change(0, 4, 0);
        x.change(0, 1, 99);
        due.is("9 + 9 + 9 - 14", x.riderOf(0, 8), 13);
        x.change(0, 5, 5);
        due.is("elsewhere the GARDEN is that of the STOP: 9 + 0 + 2 - 14", x.riderOf(0, 8), 0);
    }

    private static void changes() {
        int[] most = {-1, 99, 9, 5, 1, 5};
        for (int k = 0; k < 6; k++) {
            InnerCircle x = new InnerCircle();
            for (int i = 0; i < 6; i++) x.rider(LADY, 50, 4, 2);
            for (int what = 1; what <= 5; what++) {
                due.promise(4);
                String name = "RIDER " + k + ", what " + what;
                int was = x.riderOf(k, what);
                due.is(name + " to the most", x.change(k, what, most[what]), was);
                due.is(name + " is the most", x.riderOf(k, what), most[what]);
                due.is(name + " to the least", x.change(k, what, 0), most[what]);
                due.is(name + " is the least", x.riderOf(k, what), 0);
                due.is(name + " stays", x.change(k, what, 0), 0);
                for (int i = 0; i < 6; i++) {
                    if (i != k) due.is(name + " leaves " + i, x.riderOf(i, what), what == 1 ? 50 : what == 2 ? 4 : what == 4 ? 0 : 2);
                }
            }
            x.change(k, 4, 1);
            due.is("OUT, as a set", x.state(4), 1 << k);
            due.promise(5);
            for (int kind = 1; kind <= 5; kind++) {
                int was = kind == 1 ? 2 : kind - 1;
                due.is("remake " + k + " to " + kind, x.remake(k, kind), was);
                due.is("KIND of " + k, x.riderOf(k, 0), kind);
            }
            due.is("remake to what it is", x.remake(k, 5), 5);
            due.is("it is OUT still", x.state(4), 1 << k);
        }
    }

    private static void crowdsAndHomes() {
        due.promise(6);
        InnerCircle x = Due.still(16);
        x.rider(FATHER, 0, 0, 0);
        for (int train = 0; train < 16; train++) {
            for (int v = 0; v < 16; v++) due.is("CROWD of " + train + " to " + v, x.crowd(train, v), v == 0 ? 0 : v - 1);
            due.is("CROWD of " + train, x.crowd(train, train), 15);
        }
        for (int train = 0; train < 16; train++) {
            due.is("CROWD of TRAIN " + train, x.state(5), train);
            x.train();
        }
        due.is("CROWD behind TRAIN 15", x.state(5), 0);
        for (int f = 0; f < 6; f++) {
            for (int what = 0; what < 2; what++) {
                for (int v = 0; v < 10; v++) {
                    due.promise(7);
                    due.is("home " + f + ", " + what + " to " + v, x.home(f, what, v), v == 0 ? 0 : v - 1);
                    due.promise(8);
                    due.is("homeOf " + f + ", " + what, x.homeOf(f, what), v);
                }
                x.home(f, what, f + what);
            }
        }
        for (int f = 0; f < 6; f++) {
            for (int what = 0; what < 2; what++) due.is("homeOf " + f + ", " + what + " in the end", x.homeOf(f, what), f + what);
        }
    }

    private static void ends() {
        due.promise(9);
        InnerCircle x = new InnerCircle();
        due.is("1, the least", x.ends(1), 12);
        due.is("16, the most", x.ends(16), 1);
        for (int train = 0; train < 16; train++) {
            due.is("not OVER at " + train, x.state(3), 0);
            if (train > 0) {
                due.is("END to TRAIN " + train, x.ends(train), 16);
                due.is("OVER at " + train, x.state(3), 1);
                due.is("no TRAIN then", x.train(), -4);
                due.is("END on again", x.ends(16), train);
            }
            if (train > 1) due.is("one below TRAIN " + train, x.ends(train - 1), -4);
            x.train();
        }
        due.is("OVER at 16", x.state(3), 1);
        due.is("16 at 16", x.ends(16), 16);
        due.is("15 at 16", x.ends(15), -4);
        due.is("END is 16", x.state(1), 16);
    }

    private static void anew() {
        due.promise(10);
        InnerCircle x = new InnerCircle();
        for (int k = 0; k < 6; k++) x.rider(REGULAR, 10 * k, 5, k);
        x.ends(9);
        for (int i = 0; i < 9; i++) x.train();
        due.is("all are OUT", x.state(4), 63);
        for (int k = 0; k < 6; k++) x.change(k, 5, 5 - k);
        due.is("nobody is AT HOME", x.state(6), 0);
        int[] deep = new int[6];
        for (int k = 0; k < 6; k++) deep[k] = x.riderOf(k, 1);
        due.is("when it is OVER", x.anew(), 9);
        due.is("nobody is OUT", x.state(4), 0);
        due.is("all are AT HOME", x.state(6), 63);
        for (int k = 0; k < 6; k++) due.is("DEPTH of " + k, x.riderOf(k, 1), deep[k]);
        due.is("END stays", x.state(1), 9);
        due.is("SCORE", x.state(2), 0);
        due.is("it isn't OVER", x.state(3), 0);
        due.is("at TRAIN 0", x.anew(), 0);
    }

    private static void states() {
        due.promise(11);
        InnerCircle x = Due.still(16);
        for (int k = 0; k < 6; k++) {
            x.rider(LADY, 0, 0, 2);
            x.change(k, 5, 3);
        }
        due.is("nobody AT HOME", x.state(6), 0);
        for (int k = 0; k < 6; k++) {
            x.change(k, 5, 2);
            due.is(k + " AT HOME as well", x.state(6), (2 << k) - 1);
        }
        for (int k = 5; k >= 0; k--) {
            x.change(k, 4, 1);
            due.is(k + " OUT as well", x.state(4), 64 - (1 << k));
        }
        due.is("AT HOME, OUT or not", x.state(6), 63);
        due.is("all OUT: a TRAIN is WORTH 0", x.train(), 0);
        due.is("SCORE", x.state(2), 0);
        x.change(0, 4, 0);
        x.lot();
        int score = x.state(2);
        x.change(0, 4, 0);
        x.change(0, 5, 2);
        x.sheet(0, 0, 1);
        x.write(0, 0, 1);
        int worth = x.goAll(0, 0, 1);
        due.is("SCORE counts what LOTS and items were WORTH", x.state(2), score + worth);
        due.is("which was some", worth > 0 ? 1 : 0, 1);
    }

    private static void tape() {
        due.promise(12);
        for (int n = 1; n <= 8; n++) {
            InnerCircle x = new InnerCircle();
            due.is("the first " + n, x.feed(-1, n), n);
            int tape = n;
            while (tape + 8 <= 200) {
                tape += 8;
                x.feed(-1, 8);
            }
            for (int more = 8; more > 200 - tape; more--) due.is(more + " more than " + tape, x.feed(-1, more), -2);
            if (tape < 200) due.is("full by " + (200 - tape), x.feed(-1, 200 - tape), 200);
            due.is("full", x.many(5), 200);
            due.is("not one more", x.feed(-1, 1), -2);
            due.is("FAULT of byte 255", x.rules(), -100);
            due.is("used up", x.many(5), 0);
            due.is("room again", x.feed(-1, 8), 8);
        }
        InnerCircle x = new InnerCircle();
        // "lady ride" from the lowest byte of eight to its highest, the sign's byte too
        x.feed(0x6972207964616C20L, 8);
        x.feed(0x3B6564L, 3);
        due.is("eight bytes in their order", x.rules(), 1);
        x.feed(0xE97964616C202020L, 8);
        due.is("the highest of eight is the last one", x.rules(), -107);
    }

    private static void text(String text, int want) {
        InnerCircle x = new InnerCircle();
        due.is("rules of \"" + text + "\"", Due.rules(x, text), want);
    }

    private static String times(String text, int n) {
        StringBuilder all = new StringBuilder();
        for (int i = 0; i < n; i++) all.append(text);
        return all.toString();
    }

    private static void texts() {
        due.promise(13);
        text(times(" ", 200), 0);
        text(times(" ", 189) + "rider exit;", 1);
        text("rider exit;" + times(" ", 189), 1);
        text("rider if " + times("not ", 45) + "1<2 ride;", 1);
        text("rider if 1<2" + times(" or 1<2", 25) + " ride;", 1);
        text("rider if 1<2" + times(" and 1<2", 22) + " ride;", 1);
        text("rider if " + times("(((1<2)))or", 14) + "(((1<2)))exit;", 1);
        text(times("father exit;", 8), 8);
        text("rider if 0<9999 exit;", 1);
        text("rider if 0000=0 exit;", 1);
        text("rider if ((1<2)and(1<2))or((1<2)and((1<2)))exit;", 1);
        InnerCircle x = new InnerCircle();
        x.rider(LADY, 0, 0, 0);
        due.is("45 times not", Due.rules(x, "rider if " + times("not ", 45) + "1<2 ride;"), 1);
        due.is("is not", x.riderOf(0, 10), 0);
        due.is("44 times not", Due.rules(x, "rider if " + times("not ", 44) + "1<2 ride;"), 1);
        due.is("is so", x.riderOf(0, 10), 1);
        due.is("25 times or", Due.rules(x, "rider if 1>2" + times(" or 1>2", 24) + " or 1<2 ride;"), 1);
        due.is("the last is so", x.riderOf(0, 10), 1);
        due.is("22 times and", Due.rules(x, "rider if 1<2" + times(" and 1<2", 21) + " and 1>2 ride;"), 1);
        due.is("the last isn't so", x.riderOf(0, 10), 0);
        due.is("9999 is 9999", Due.rules(x, "rider if 9999=9999 and 9998<9999 and 0<1 ride;"), 1);
        due.is("so it is", x.riderOf(0, 10), 1);
    }

    private static void faults() {
        due.promise(13);
        // a NUMBER of more digits, where it begins
        text("rider if 00000=1 exit;", -109);
        text("rider if 1=10000 exit;", -111);
        text("rider if 1234567890123<1 exit;", -109);
        text("rider if 1<2 12345;", -113);
        // the fourth "("
        text("rider if ((((", -112);
        text("rider if (((1<2)and((1<2)))) exit;", -120);
        text("rider if ((1<2)and((1<2)and(1<2)or((1<2))))exit;", -135);
        text("rider if (((1<2)))or((((1<2))))exit;", -123);
        // what closes nothing
        text("rider if (1<2)) exit;", -114);
        text("rider )exit;", -106);
        // the first NAME of the ninth RULE
        text(times("lady stay;", 8) + "lady stay;", -180);
        text(times("lady stay;", 8) + "     x", -185);
        text(times("lady stay;", 8) + "   9", -183);
        text(times("lady stay;", 7) + "lady stay", -179);
        // signs alone or twice
        text("rider if < 1 exit;", -109);
        text("rider if 1 1 exit;", -111);
        text("rider if 1<<2 exit;", -111);
        text("rider if 1<>2 exit;", -111);
        text("rider if 1<and 2 exit;", -111);
        text("rider if 1<2 andnot 1<2 exit;", -113);
        text("rider if not not exit;", -117);
        text("rider if not;", -112);
        text("rider if or 1<2 exit;", -109);
        text("rider if (or) exit;", -110);
        text("rider if 1<2 or or 1<2 exit;", -116);
        text("rider if 1<(2) exit;", -111);
        text("rider if (1)<2 exit;", -111);
        text("rider if train exit;", -115);
        text("rider if 1<2", -112);
        text("rider if 1<2 stay ride;", -118);
        text("rider not exit;", -106);
        text("rider exit if 1<2;", -111);
        text("exit;", -100);
        text("if 1<2 exit;", -100);
    }

    private static void faultsAtTheEnd() {
        due.promise(13);
        String[] parts = {"rider", "if", "not", "(", "depth", "<", "40", "and", "1", "=", "1", ")", "or", "wish", ">", "rush", "stay"};
        StringBuilder text = new StringBuilder();
        for (String part : parts) {
            text.append(part);
            text(text.toString(), -100 - text.length());
            text(text + "   ", -103 - text.length());
            text.append(' ');
        }
        text(text + ";", 1);
        text(times(" ", 195) + "rider", -300);
        text(times(" ", 190) + "rider exit", -300);
        text("rider" + times(" ", 195), -300);
        text(times(" ", 199) + "?", -299);
        text(times(" ", 199) + "x", -299);
    }

    private static void names() {
        due.promise(13);
        String[] kinds = {"rider", "regular", "lady", "father", "clerk", "barrier"};
        for (String kind : kinds) {
            for (int i = 0; i < kind.length(); i++) {
                text(kind.substring(0, i) + "z" + kind.substring(i + 1) + " exit;", -100);
                text(kind.substring(0, i) + "a" + kind.substring(i) + " exit;", -100);
            }
            text(kind + "z exit;", -100);
            text(kind.substring(0, kind.length() - 1) + " exit;", -100);
        }
        for (String deed : new String[] {"exit", "ride", "stay"}) {
            for (int i = 0; i < deed.length(); i++) {
                text("lady " + deed.substring(0, i) + "z" + deed.substring(i + 1) + ";", -105);
            }
            text("lady " + deed + "s;", -105);
            text("lady " + deed.substring(0, 3) + ";", -105);
        }
        for (String value : new String[] {"train", "depth", "wish", "rush", "number"}) {
            text("lady if " + value + "=0 stay;", 1);
            for (int i = 0; i < value.length(); i++) {
                text("lady if " + value.substring(0, i) + "z" + value.substring(i + 1) + "=0 stay;", -108);
            }
            text("lady if 0=" + value + "z stay;", -110);
        }
        text("lady iff 1<2 stay;", -105);
        text("lady if nott 1<2 stay;", -108);
        text("lady if 1<2 ando 1<2 stay;", -112);
        text("lady if 1<2 orr 1<2 stay;", -112);
        // the bytes beside a, z, 0 and 9 belong to no NAME and no NUMBER
        char[] beside = {96, 123, 47, 58, 31, 33, 127, 128, 160, 255, 0, 9, 10, 13, 'A', 'Z', '_', '-', '.', ','};
        for (char sign : beside) {
            text("lady" + sign + " stay;", -104);
            text(sign + "lady stay;", -100);
            text("lady if 1" + sign + "<2 stay;", -109);
            text("lady stay;" + sign, -110);
        }
        text("lady9 stay;", -104);
        text("lady0 stay;", -104);
        text("lady if 1a<2 stay;", -109);
        text("lady if a1<2 stay;", -108);
        text("lady if 1<2stay;", 1);
        text("lady if 0<9stay;lady if 9>0stay;", 2);
    }

    private static void rulesInTurn() {
        due.promise(13);
        InnerCircle x = new InnerCircle();
        x.rider(LADY, 30, 4, 2);
        due.is("none holds", Due.rules(x, "lady if 1=2 ride;lady if 1>2 ride;rider if 2<1 stay;"), 3);
        due.is("none holds: exit", x.riderOf(0, 10), 0);
        due.is("the third", Due.rules(x, "lady if 1=2 ride;lady if 1>2 ride;rider if 1<2 stay;"), 3);
        due.is("the third tells", x.riderOf(0, 10), 2);
        due.is("the second", Due.rules(x, "lady if 1=2 stay;lady if 1=1 ride;rider stay;"), 3);
        due.is("the second tells", x.riderOf(0, 10), 1);
        due.is("exit is told, too", Due.rules(x, "lady exit;rider stay;"), 2);
        due.is("exit", x.riderOf(0, 10), 0);
        due.is("eight", Due.rules(x, times("father stay;", 7) + "lady if depth=30 ride;"), 8);
        due.is("the eighth tells", x.riderOf(0, 10), 1);
    }

    private static void factsAtTheEnd() {
        due.promise(13);
        InnerCircle x = new InnerCircle();
        x.ends(16);
        for (int k = 0; k < 6; k++) x.rider(REGULAR, 99, 9, k);
        x.crowd(15, 15);
        Due.rules(x, "rider if rush=3 and train=15 ride; rider if rush=0 and train=16 stay;"
                + "rider if number=5 and depth=99 and wish=9 ride;");
        due.is("number 5, 99 deep, WISH 9", x.riderOf(5, 10), 1);
        due.is("number 4", x.riderOf(4, 10), 0);
        for (int i = 0; i < 15; i++) x.train();
        due.is("RUSH of TRAIN 15", x.riderOf(0, 10), 1);
        x.train();
        due.is("RUSH behind TRAIN 15 is 0, TRAIN is 16", x.riderOf(0, 10), 2);
    }

    private static int tell(InnerCircle x, int act) {
        x.sheet(0, 0, 1);
        x.write(0, 0, act);
        return x.goAll(0, 0, 1);
    }

    private static void lampsByTrain() {
        due.promise(14);
        for (int lamps = 0; lamps <= 3; lamps++) {
            InnerCircle x = Due.still(16);
            Due.rules(x, "clerk ride;rider stay;");
            x.crowd(0, 12 + lamps);
            x.rider(REGULAR, 40, 0, 1);
            x.rider(CLERK, 40, 0, 4);
            x.rider(BARRIER, 40, 0, 3);
            due.is("a ride is WORTH 1 by LAMPS: " + lamps, tell(x, 2), lamps > 0 ? 1 : 0);
            due.is("regular by LAMPS " + lamps, x.riderOf(0, 1), lamps > 0 ? 40 : 41);
            due.is("clerk by LAMPS " + lamps, x.riderOf(1, 1), 43 - lamps);
            due.is("barrier by LAMPS " + lamps, x.riderOf(2, 1), 40 + (3 - lamps) / 2);
        }
    }

    private static void rides() {
        due.promise(14);
        for (int f = 0; f < 6; f++) {
            InnerCircle x = Due.still(16);
            Due.rules(x, "rider ride;");
            x.rider(LADY, 9, 0, f);
            int next = f == 5 ? 0 : f + 1;
            x.home(next, 1, 9);
            tell(x, 1);
            due.is("from " + f + " it rides to", x.riderOf(0, 5), next);
            due.is("DEPTH 9 less by POSTER 9", x.riderOf(0, 1), 0);
            x.change(0, 5, f);
            x.change(0, 1, 8);
            x.anew();
            tell(x, 1);
            due.is("DEPTH 8 less by POSTER 9, 0 at least", x.riderOf(0, 1), 0);
            x.anew();
            x.change(0, 1, 10);
            tell(x, 1);
            due.is("DEPTH 10 less by POSTER 9", x.riderOf(0, 1), 1);
        }
        InnerCircle x = Due.still(16);
        Due.rules(x, "rider ride;");
        x.rider(LADY, 0, 0, 1);
        x.change(0, 5, 0);
        due.is("a ride HOME: 1", tell(x, 1), 1);
        due.is("a ride from HOME: 0", tell(x, 1), 0);
    }

    private static void sinkingTo99() {
        due.promise(14);
        int[] depths = {88, 89, 90, 91, 99}, want = {97, 98, 99, 99, 99};
        for (int i = 0; i < depths.length; i++) {
            InnerCircle x = Due.still(16);
            Due.rules(x, "rider stay;");
            x.crowd(0, 12);
            x.rider(FATHER, depths[i], 0, 0);
            x.train();
            due.is("father from " + depths[i] + " by 9", x.riderOf(0, 1), want[i]);
        }
        InnerCircle y = Due.still(16);
        Due.rules(y, "rider if number=0 ride;rider stay;");
        y.crowd(0, 12);
        y.rider(LADY, 0, 0, 0);
        y.rider(LADY, 0, 0, 1);
        y.rider(LADY, 0, 0, 1);
        tell(y, 1);
        due.is("who rode stands by two when (2) begins", y.riderOf(0, 1), 10);
        due.is("and they by it", y.riderOf(2, 1), 10);
    }

    private static void drifting() {
        due.promise(14);
        for (int f = 0; f < 6; f++) {
            InnerCircle x = Due.still(16);
            Due.rules(x, "rider stay;");
            for (int kind = 1; kind <= 5; kind++) {
                x.rider(kind, 0, 0, 0);
                x.change(kind - 1, 5, f);
            }
            int regular = (f + 1) % 6;
            // regular, clerk and barrier 1 on; lady and father stay
            due.is("TRAIN 0 from " + f, x.train(), regular == 0 ? 3 : f == 0 ? 2 : 0);
            for (int k = 0; k < 5; k++) due.is("TRAIN 0 from " + f + ", RIDER " + k, x.riderOf(k, 5), k == 1 || k == 2 ? f : regular);
            x.train();
            int[] by = {2, 1, 2, 1, 1};
            for (int k = 0; k < 5; k++) due.is("TRAIN 1 from " + f + ", RIDER " + k, x.riderOf(k, 5), (f + by[k]) % 6);
        }
        InnerCircle x = Due.still(16);
        Due.rules(x, "rider stay;");
        x.rider(BARRIER, 0, 0, 2);
        for (int i = 0; i < 8; i++) x.train();
        x.change(0, 5, 5);
        due.is("barrier in TRAIN 8: 3 on from 5, and that is HOME", x.train(), 1);
        x.change(0, 5, 0);
        due.is("barrier in TRAIN 9: 2 on from 0", x.train(), 1);
    }

    private static void rest() {
        InnerCircle x = Due.still(16);
        for (int k = 0; k < 6; k++) x.rider(LADY, 0, 0, k);
        due.promise(16);
        for (int k = 0; k < 6; k++) due.is("the least that MAY, " + k, x.when(k), k);
        x.ends(4);
        due.is("in the last TRAIN", x.when(3), 3);
        due.is("not in the last TRAIN", x.when(4), -3);
        due.promise(15);
        due.is("0 TRAINS", x.on(0), 0);
        // lady 0 PAYS 9, five are AT HOME; lady 1 PAYS 9, four drift away; two PAY 2; AT HOME nobody
        due.is("1 TRAIN", x.on(1), 14);
        due.is("2 TRAINS", x.on(2), 23);
        due.is("3 TRAINS", x.on(3), 25);
        due.is("4 TRAINS", x.on(4), 27);
        due.is("5 TRAINS, but 4 is END", x.on(5), 27);
        due.is("16 TRAINS, but 4 is END", x.on(16), 27);
        due.promise(14);
        for (int i = 0; i < 4; i++) x.train();
        due.is("SCORE", x.state(2), 27);
        due.is("OUT", x.state(4), 15);
        due.promise(15);
        due.is("OVER: 0", x.on(16), 0);
        due.promise(16);
        due.is("OVER: none", x.when(5), -3);
        due.is("OUT now: none", x.when(0), -3);
        due.promise(14);
        InnerCircle y = Due.still(16);
        y.rider(LADY, 0, 0, 0);
        y.change(0, 5, 1);
        y.change(0, 1, 14);
        due.is("PAYS 0 + 0 + 2 - 2: nobody is told", y.train(), 0);
        due.is("not OUT", y.state(4), 0);
    }

    private static void wishes() {
        due.promise(17);
        for (int wish = 0; wish <= 9; wish++) {
            InnerCircle x = Due.still(1);
            x.rider(LADY, 0, 5, 0);
            x.rider(LADY, 0, 5, 1);
            x.change(0, 4, 1);
            Due.rules(x, "lady if number=0 stay;lady if wish=" + wish + " exit;lady stay;");
            due.is("by a RULE WISH " + wish, x.wishFor(1), wish);
            due.is("WISH stays", x.riderOf(1, 2), 5);
        }
        InnerCircle x = Due.still(1);
        x.rider(LADY, 0, 5, 0);
        Due.rules(x, "lady if wish>6 stay;");
        due.is("the most is not the highest", x.wishFor(0), 6);
        due.promise(18);
        for (int home = 0; home <= 5; home++) {
            InnerCircle y = Due.still(1);
            y.rider(LADY, 0, 5, 2);
            y.change(0, 5, home);
            due.is("HOME where it is, " + home, y.homeFor(0), home);
            due.is("HOME stays", y.riderOf(0, 3), 2);
            due.is("AT stays", y.riderOf(0, 5), home);
        }
        InnerCircle z = Due.still(16);
        Due.rules(z, "rider stay;");
        z.rider(REGULAR, 0, 5, 2);
        // 16 TRAINS from 2 on: 3, 4, 5, 0 three times, 1, 2 twice; of several the least is 0
        due.is("of several the least", z.homeFor(0), 0);
        z.ends(3);
        due.is("of 3, 4, 5 the least", z.homeFor(0), 3);
    }

    private static void lost() {
        due.promise(19);
        InnerCircle x = Due.still(16);
        Due.rules(x, "rider stay;");
        x.rider(REGULAR, 49, 0, 0);
        x.rider(REGULAR, 50, 0, 1);
        x.rider(REGULAR, 48, 0, 2);
        x.rider(REGULAR, 99, 0, 3);
        due.is("49 deep, by 1", x.lost(0), 1);
        due.is("50 deep", x.lost(1), 0);
        due.is("48 deep, by 1 each", x.lost(2), 2);
        due.is("99 deep", x.lost(3), 0);
        x.train();
        due.is("as 1", x.lost(0), 1);
        due.is("TRAIN itself", x.lost(1), 1);
        due.is("as 2 yet", x.lost(2), 2);
        InnerCircle y = Due.still(16);
        y.rider(REGULAR, 49, 0, 0);
        due.is("who comes up first isn't lost", y.lost(0), -3);
        y.change(0, 2, 0);
        y.change(0, 5, 1);
        due.is("who PAYS nothing is", y.lost(0), 1);
    }

    private static void reach() {
        due.promise(20);
        for (int from = 0; from < 6; from++) {
            InnerCircle x = Due.still(16);
            x.rider(LADY, 0, 0, from);
            int[] want = {0, 1, 2, 2, 3, 4};
            for (int on = 0; on < 6; on++) due.is("lady from " + from + ", " + on + " on", x.reach(0, (from + on) % 6), want[on]);
            x.change(0, 4, 1);
            due.is("OUT doesn't count", x.reach(0, (from + 3) % 6), 2);
            x.ends(1);
            due.is("END doesn't count", x.reach(0, (from + 5) % 6), 4);
        }
        InnerCircle x = Due.still(16);
        x.rider(BARRIER, 0, 0, 0);
        for (int i = 0; i < 16; i++) x.train();
        x.change(0, 5, 0);
        // in TRAIN 16 it drifts 3, in 17 2, in 18 3
        int[] want = {0, 2, 3, 1, 1, 2};
        for (int f = 0; f < 6; f++) due.is("behind TRAIN 15 to " + f, x.reach(0, f), want[f]);
    }

    private static void carriages() {
        due.promise(21);
        InnerCircle x = new InnerCircle();
        x.rider(REGULAR, 20, 0, 0);
        due.is("one alone is one", x.carriages(-1), 1);
        due.is("RIDER 0 alone", x.carriages(0), 1);
        x.rider(REGULAR, 25, 0, 1);
        due.is("5 apart", x.carriages(-1), 2);
        x.change(1, 1, 24);
        due.is("4 apart", x.carriages(-1), 1);
        x.change(1, 1, 15);
        due.is("5 apart, below", x.carriages(0), 1);
        x.change(1, 1, 16);
        due.is("4 apart, below", x.carriages(0), 3);
        x.change(1, 1, 99);
        x.change(1, 5, 0);
        due.is("far apart AT one STOP", x.carriages(-1), 1);
        x.change(0, 4, 1);
        due.is("one of them OUT", x.carriages(-1), 1);
        due.is("OUT", x.carriages(0), 0);
        x.change(1, 4, 1);
        due.is("all OUT", x.carriages(-1), 0);
        InnerCircle y = new InnerCircle();
        for (int k = 0; k < 6; k++) y.rider(REGULAR, 10 * k, 0, k);
        due.is("six alone", y.carriages(-1), 6);
        for (int k = 0; k < 6; k++) due.is(k + " alone", y.carriages(k), 1 << k);
        for (int k = 0; k < 6; k++) y.change(k, 5, k / 2);
        due.is("three pairs", y.carriages(-1), 3);
        y.change(0, 5, 2);
        due.is("0 with the last", y.carriages(0), 49);
        due.is("1 alone, 0 counted once", y.carriages(-1), 3);
    }

    private static void press() {
        due.promise(22);
        InnerCircle x = Due.still(16);
        Due.rules(x, "rider stay;");
        for (int k = 0; k < 6; k++) x.rider(LADY, 0, 0, 5);
        due.is("six AT 5", x.press(0, 0), 5);
        due.is("are six", x.press(0, 1), 6);
        due.is("behind 2 they are AT 0", x.press(2, 0), 0);
        due.is("are six still", x.press(2, 1), 6);
        due.is("behind 16, 8 on from 5", x.press(16, 0), 1);
        for (int k = 0; k < 6; k++) x.change(k, 5, k);
        due.is("one each: the least", x.press(0, 0), 0);
        due.is("is one", x.press(0, 1), 1);
        x.change(0, 4, 1);
        due.is("0 is OUT: the least of the others", x.press(0, 0), 1);
        x.ends(2);
        due.is("behind 16, but 2 is END", x.press(16, 0), 0);
        for (int k = 0; k < 6; k++) x.change(k, 4, 1);
        due.is("all OUT: STOP", x.press(1, 0), 0);
        due.is("all OUT: how many", x.press(1, 1), 0);
    }
}
