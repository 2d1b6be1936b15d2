/** Promises 30 to 36: strangers, lots. */
final class LotsTest {
    private static final int REGULAR = 1, LADY = 2, FATHER = 3, BARRIER = 5;
    private static final Due due = new Due("LotsTest");

    public static void main(String[] args) {
        report();
        lone();
        loneByCrowds();
        liar();
        seedAndLot();
        times();
        due.end();
    }

    private static void report() {
        due.promise(30);
        InnerCircle x = new InnerCircle();
        due.is("k -1", x.report(-1, 0, 0, 0), -1);
        due.is("k 16", x.report(16, 0, 0, 0), -1);
        due.is("asked -1", x.report(0, -1, 0, 0), -1);
        due.is("asked 2", x.report(0, 2, 0, 0), -1);
        due.is("least -1", x.report(0, 0, -1, 0), -1);
        due.is("most 6", x.report(0, 0, 0, 6), -1);
        due.is("most 100", x.report(0, 1, 0, 100), -1);
        due.is("most below least", x.report(0, 1, 3, 2), -1);
        due.is("none came", x.many(3), 0);
        due.is("a STOP", x.report(15, 0, 0, 5), 0);
        due.is("a DEPTH", x.report(15, 1, 0, 99), 1);
        for (int i = 2; i < 6; i++) due.is("number " + i, x.report(i, 1, 6, 6), i);
        due.is("seventh", x.report(0, 0, 0, 0), -2);
        due.is("BAD comes ahead of FULL", x.report(0, 2, 0, 0), -1);
        due.promise(31);
        due.is("forget", x.forget(), 6);
        due.is("none", x.forget(), 0);
        due.is("number 0 again", x.report(0, 0, 0, 0), 0);
    }

    private static void lone() {
        due.promise(32);
        InnerCircle x = new InnerCircle();
        due.is("all", x.lone(0), 300);
        due.is("KIND", x.lone(1), 1);
        due.is("STOP", x.lone(2), 0);
        due.is("DEPTH", x.lone(3), 0);
        due.is("what 4", x.lone(4), -1);
        due.is("what -1", x.lone(-1), -1);
        x.report(0, 0, 2, 3);
        due.is("AT 2 or 3 at first", x.lone(0), 100);
        x.report(0, 1, 20, 40);
        due.is("27 or 36 deep", x.lone(0), 20);
        due.is("DEPTH of the least", x.lone(3), 27);
        // behind TRAIN 0: regular and clerk have drifted 1, barrier too, lady and father not
        x.report(1, 0, 2, 2);
        due.is("AT 2 behind TRAIN 0: ladies and fathers from 2", x.lone(0), 4);
        due.is("KIND lady", x.lone(1), LADY);
        due.is("from STOP 2", x.lone(2), 2);
        // CROWD 5: a lady sinks 2, a father 5 a TRAIN
        x.report(1, 1, 32, 32);
        due.is("a father from 27", x.lone(0), 1);
        due.is("KIND father", x.lone(1), FATHER);
        due.is("DEPTH 27", x.lone(3), 27);
        x.report(1, 1, 33, 33);
        due.is("none", x.lone(0), 0);
        due.is("none's KIND", x.lone(1), -3);
        due.is("none's STOP", x.lone(2), -3);
        due.is("none's DEPTH", x.lone(3), -3);
        due.is("what 4 is BAD, not NONE", x.lone(4), -1);
    }

    private static void loneByCrowds() {
        due.promise(32);
        InnerCircle x = new InnerCircle();
        // barriers: behind 15 TRAINS 8 by even ones, and 2 by each of TRAINS 8 to 14: 22, that is 4 on
        for (int train = 0; train < 16; train++) x.crowd(train, 12);
        x.report(15, 0, 4, 4);
        x.report(0, 0, 0, 0);
        // regulars drift 15 (3 on), ladies 7 (1 on), fathers 14 (2 on), clerks 8 (2 on)
        due.is("barriers from 0", x.lone(0), 10);
        due.is("KIND", x.lone(1), BARRIER);
        // they sink 1 a TRAIN by RUSH 3 and no LAMPS
        x.report(15, 1, 96, 99);
        due.is("81 + 15", x.lone(0), 1);
        due.is("DEPTH", x.lone(3), 81);
        x.forget();
        // fathers sink 9 a TRAIN: all are 99 at most behind 15
        x.report(15, 1, 99, 99);
        x.report(15, 0, 2, 2);
        x.report(0, 0, 0, 0);
        due.is("99 at most: fathers; clerks from 54 on, 3 a TRAIN", x.lone(0), 14);
        due.is("KIND father", x.lone(1), FATHER);
        x.rider(REGULAR, 0, 0, 0);
        x.ends(1);
        x.train();
        Due.rules(x, "rider ride;");
        due.is("others, END, TRAIN, RULES don't count", x.lone(0), 14);
        for (int train = 0; train < 16; train++) x.crowd(train, 15);
        due.is("clerks sink 0 by 3 LAMPS", x.lone(0), 10);
    }

    private static void liar() {
        due.promise(33);
        InnerCircle x = new InnerCircle();
        due.is("no REPORTS: all FIT", x.liar(), -3);
        x.report(0, 0, 1, 1);
        due.is("some FIT", x.liar(), -3);
        x.report(0, 1, 1, 8);
        due.is("but for the second", x.liar(), 1);
        x.report(0, 0, 2, 2);
        due.is("two of three stand against one another, and one can't be", x.liar(), -3);
        x.forget();
        x.report(0, 0, 1, 1);
        x.report(0, 0, 2, 2);
        due.is("of several the least", x.liar(), 0);
        x.report(0, 0, 2, 2);
        due.is("the first, against two", x.liar(), 0);
        x.forget();
        x.report(0, 0, 2, 2);
        x.report(0, 0, 2, 2);
        x.report(0, 0, 1, 1);
        due.is("the last, against two", x.liar(), 2);
        x.forget();
        x.report(0, 1, 1, 8);
        due.is("one that can't be", x.liar(), 0);
    }

    private static int nextOf(int z) {
        return z * 1103515245 + 12345;
    }

    private static void seedAndLot() {
        due.promise(34);
        InnerCircle x = new InnerCircle();
        due.is("first", x.seed(-5), 1);
        due.is("second", x.seed(Integer.MAX_VALUE), -5);
        due.is("third", x.seed(0), Integer.MAX_VALUE);
        due.promise(35);
        x.ends(2);
        // 0 becomes 12345, >>> 16: 0
        due.is("nobody is there", x.lot(), 0);
        due.is("z", x.seed(1), 12345);
        x.rider(LADY, 0, 4, 0);
        x.rider(LADY, 0, 0, 1);
        // 1 becomes 1103527590, >>> 16: 16838, by 3: 2; TRAIN 1: lady 1 exits for 9, the other drifts
        due.is("lady 1", x.lot(), 9);
        due.is("OUT", x.state(4), 2);
        due.is("SCORE", x.state(2), 9);
        due.is("z is", x.seed(7), 1103527590);
        due.is("OVER", x.lot(), -4);
        due.is("z is as it was", x.seed(1), 7);
        InnerCircle y = new InnerCircle();
        y.rider(LADY, 0, 4, 0);
        int z = 0;
        while ((nextOf(z) >>> 16) % 2 != 1 || nextOf(z) > 0) z++;
        y.seed(z);
        due.is("z below 0: it is shifted as it stands", y.lot(), 13);
    }

    private static void times() {
        due.promise(36);
        InnerCircle x = new InnerCircle();
        x.rider(LADY, 0, 4, 0);
        x.ends(1);
        // each time is one TRAIN: 13 if she is told, else 1
        int z = 1, told = 0;
        for (int i = 0; i < 40; i++) {
            z = nextOf(z);
            told += (z >>> 16) % 2;
        }
        due.is("13 or more", x.times(40, 13), told);
        due.is("2 or more", x.times(40, 2), told);
        due.is("1 or more", x.times(40, 1), 40);
        due.is("14 or more", x.times(40, 14), 0);
        due.is("999 or more", x.times(40, 999), 0);
        due.is("once", x.times(1, 13), (nextOf(1) >>> 16) % 2);
        due.is("z is as it was", x.seed(1), 1);
        due.is("TRAIN is as it was", x.state(0), 0);
        due.is("DEPTH is as it was", x.riderOf(0, 1), 0);
        due.is("0 times", x.times(0, 0), -1);
        due.is("41 times", x.times(41, 0), -1);
        due.is("v -1", x.times(1, -1), -1);
        due.is("v 1000", x.times(1, 1000), -1);
        x.ends(16);
        Due.rules(x, "rider if train<15 stay;");
        for (int f = 0; f < 6; f++) x.home(f, 0, 9);
        int homes = 0, some = 0;
        // a regular is AT HOME behind TRAINS 5 and 11, and PAYS 15 AT 3 ahead of the last one, if it is told then
        x.remake(0, REGULAR);
        z = 1;
        for (int i = 0; i < 40; i++) {
            for (int train = 0; train < 16; train++) z = nextOf(z);
            some += (z >>> 16) % 2;
            homes++;
        }
        due.is("the last of 16 TRAINS", x.times(40, 17), some);
        due.is("the HOMES alone", x.times(40, 2), homes);
        due.is("more there is not", x.times(40, 18), 0);
        x.ends(1);
        x.train();
        due.is("OVER: WORTH 0 each", x.times(7, 0), 7);
        due.is("OVER: none is 1", x.times(7, 1), 0);
    }
}
