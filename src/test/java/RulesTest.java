/** Promises 12 and 13: the rules. */
final class RulesTest {
    private static final Due due = new Due("RulesTest");

    public static void main(String[] args) {
        feed();
        texts();
        faults();
        faultsOfNumbersAndNames();
        manyRules();
        kinds();
        facts();
        conditions();
        due.end();
    }

    private static void feed() {
        due.promise(12);
        InnerCircle x = new InnerCircle();
        due.is("n 0", x.feed(0, 0), -1);
        due.is("n 9", x.feed(0, 9), -1);
        due.is("n -1", x.feed(0, -1), -1);
        due.is("n MIN", x.feed(0, Integer.MIN_VALUE), -1);
        due.is("nothing came", x.many(5), 0);
        due.is("one", x.feed('l', 1), 1);
        due.is("three more, the lowest first", x.feed('a' | 'd' << 8 | 'y' << 16, 3), 4);
        due.is("eight more, what is above counts", x.feed(0x2020202020202020L, 8), 12);
        Due.feed(x, "exit;");
        due.is("rules", x.rules(), 1);
        due.is("used up", x.many(5), 0);
        for (int i = 0; i < 24; i++) x.feed(0x2020202020202020L, 8);
        due.is("192", x.many(5), 192);
        due.is("7 more", x.feed(0x20202020202020L, 7), 199);
        due.is("2 more are too many", x.feed(0x2020, 2), -2);
        due.is("9 are BAD, not FULL", x.feed(0x2020, 9), -1);
        due.is("nothing came then", x.many(5), 199);
        due.is("1 more", x.feed(0x20, 1), 200);
        due.is("and none more", x.feed(0x20, 1), -2);
        due.is("200 blanks are no RULES", x.rules(), 0);
        due.is("used up again", x.many(5), 0);
        due.is("what is above n counts nothing", x.feed(-1L << 8 | 32, 1), 1);
        due.is("so it is a blank", x.rules(), 0);
    }

    private static void text(String text, int want) {
        InnerCircle x = new InnerCircle();
        due.is("rules of \"" + text + "\"", Due.rules(x, text), want);
        due.is("RULES of \"" + text + "\"", x.many(1), Math.max(want, 0));
        due.is("TAPE behind \"" + text + "\"", x.many(5), 0);
    }

    private static void texts() {
        due.promise(13);
        text("", 0);
        text("   ", 0);
        text("rider exit;", 1);
        text(" rider  exit ; ", 1);
        text("rider exit;regular ride;lady stay;father exit;clerk ride;barrier stay;", 6);
        text("lady if depth>40 ride;", 1);
        text("lady if depth > 40 and rush<2 or not wish=3 ride;", 1);
        text("lady if not not not(train=1)stay;", 1);
        text("lady if(((1<2)))stay;", 1);
        text("lady if(1<2)and(2<3)or((3<4)and(4<5))stay;", 1);
        text("lady if 0000<9999 stay;", 1);
        text("lady if 5<number stay ;", 1);
        text("lady if 1=1stay;", 1);
    }

    private static void faults() {
        due.promise(13);
        text("x", -100);
        text(" exit;", -101);
        text("rider", -105);
        text("rider  ", -107);
        text("rider exit", -110);
        text("rider exit  ", -112);
        text("rider go;", -106);
        text("rider exit ride;", -111);
        text("rider;", -105);
        text(";", -100);
        text("rider exit;;", -111);
        text("rider exit;l", -111);
        text("rider if exit;", -109);
        text("rider if 1 exit;", -111);
        text("rider if 1<;", -111);
        text("rider if 1<2;", -112);
        text("rider if 1<2<3 exit;", -112);
        text("rider if 1<2 and exit;", -117);
        text("rider if 1<2 or", -115);
        text("rider if (1<2 exit;", -114);
        text("rider if 1<2) exit;", -112);
        text("rider if () exit;", -110);
        text("rider if not exit;", -113);
        text("rider if (1) exit;", -111);
        text("rider if ((((1<2)))) exit;", -112);
        text("rider if not ((not(not (1<2)))) exit;", -123);
        text("rider if 1<lady exit;", -111);
        text("rider if if 1<2 exit;", -109);
        text("rider if 1==2 exit;", -111);
        text("rider if -1<2 exit;", -109);
    }

    private static void faultsOfNumbersAndNames() {
        due.promise(13);
        text("riders exit;", -100);
        text("ride exit;", -100);
        text("Rider exit;", -100);
        text("riderexit;", -100);
        text("rider1 exit;", -105);
        text("rider\texit;", -105);
        text("rider\nexit;", -105);
        text("rider if 10000<1 exit;", -109);
        text("rider if 1<00001 exit;", -111);
        text("rider if 1<2345 exit;", 1);
        text("rider if depths<1 exit;", -109);
        text("rider if dept h<1 exit;", -109);
        text("\u00e9", -100);
        text("rider exit\u00ff;", -110);
    }

    private static void manyRules() {
        due.promise(13);
        StringBuilder eight = new StringBuilder();
        for (int i = 0; i < 8; i++) eight.append("lady stay;");
        text(eight.toString(), 8);
        text(eight + "   ", 8);
        text(eight + " lady stay;", -181);
        text(eight + "lady", -180);
        text(eight + "?", -180);
        InnerCircle x = new InnerCircle();
        x.rider(1, 0, 5, 0);
        due.is("two", Due.rules(x, "rider ride;rider stay;"), 2);
        due.is("a FAULT leaves them", Due.rules(x, "rider exit;no"), -111);
        due.is("two still", x.many(1), 2);
        due.is("WILL still", x.riderOf(0, 10), 1);
        due.is("one in place of all", Due.rules(x, "rider stay;"), 1);
        due.is("WILL then", x.riderOf(0, 10), 2);
        due.is("none in place of all", Due.rules(x, ""), 0);
        due.is("WILL without", x.riderOf(0, 10), 0);
    }

    private static void kinds() {
        due.promise(13);
        String[] names = {"rider", "regular", "lady", "father", "clerk", "barrier"};
        int[][] told = {{1, 2, 3, 4, 5}, {1}, {2, 3}, {3}, {4, 5}, {5}};
        for (int name = 0; name < 6; name++) {
            InnerCircle x = new InnerCircle();
            for (int kind = 1; kind <= 5; kind++) x.rider(kind, 0, 0, 0);
            Due.rules(x, names[name] + " stay;");
            for (int kind = 1; kind <= 5; kind++) {
                boolean isTold = false;
                for (int one : told[name]) isTold |= one == kind;
                due.is(names[name] + " tells " + kind, x.riderOf(kind - 1, 10), isTold ? 2 : 0);
            }
        }
        InnerCircle x = new InnerCircle();
        x.rider(3, 0, 0, 0);
        x.rider(2, 0, 0, 0);
        Due.rules(x, "father ride; lady stay; rider ride;");
        due.is("the first that fits tells a father", x.riderOf(0, 10), 1);
        due.is("and a lady", x.riderOf(1, 10), 2);
    }

    private static int willOfTwo(String condition) {
        InnerCircle x = new InnerCircle();
        x.rider(1, 1, 1, 1);
        x.rider(4, 33, 7, 2);
        x.crowd(1, 11);
        x.train();
        x.change(1, 1, 33);
        due.is("rules of " + condition, Due.rules(x, "clerk if " + condition + " ride;"), 1);
        return x.riderOf(1, 10);
    }

    private static void facts() {
        due.promise(13);
        due.is("train=1", willOfTwo("train=1"), 1);
        due.is("train=0", willOfTwo("train=0"), 0);
        due.is("depth=33", willOfTwo("33=depth"), 1);
        due.is("depth>33", willOfTwo("depth>33"), 0);
        due.is("wish=7", willOfTwo("wish=7"), 1);
        due.is("rush=2", willOfTwo("rush=2"), 1);
        due.is("number=1", willOfTwo("number=1"), 1);
        due.is("number=train", willOfTwo("number=train"), 1);
        due.is("rush>train", willOfTwo("rush>train"), 1);
        due.is("wish<rush", willOfTwo("wish<rush"), 0);
        due.is("9999>9998", willOfTwo("9999>9998"), 1);
        due.is("0010=10", willOfTwo("0010=10"), 1);
    }

    private static void conditions() {
        due.promise(13);
        due.is("1<1", willOfTwo("1<1"), 0);
        due.is("1>1", willOfTwo("1>1"), 0);
        due.is("not 1>1", willOfTwo("not 1>1"), 1);
        due.is("not not 1>1", willOfTwo("not not 1>1"), 0);
        due.is("and binds more", willOfTwo("1=1 or 1=1 and 1=2"), 1);
        due.is("brackets bind most", willOfTwo("(1=1 or 1=1)and 1=2"), 0);
        due.is("not binds one", willOfTwo("not 1=2 or 1=1"), 1);
        due.is("not binds one of and", willOfTwo("not 1=2 and 1=2"), 0);
        due.is("not of brackets", willOfTwo("not(1=2 and 1=2)"), 1);
        due.is("or of three", willOfTwo("1=2 or 1=3 or 1=1"), 1);
        due.is("and of three", willOfTwo("1=1 and 2=2 and 1=3"), 0);
        due.is("deep", willOfTwo("1=1 and(1=2 or(1=1 and(1=2 or 2=2)))"), 1);
        due.is("deep and not", willOfTwo("1=1 and(1=2 or(1=1 and not(1=2 or 2=2)))"), 0);
        due.is("ors in ands", willOfTwo("(1=2 or 1=1)and(2=1 or 1=1)and not(1=2 or 1=3)"), 1);
    }
}
