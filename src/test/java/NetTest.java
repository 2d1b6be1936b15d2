/** Promises 1 to 11: the net, riders. */
final class NetTest {
    private static final int REGULAR = 1, LADY = 2, FATHER = 3, CLERK = 4, BARRIER = 5;
    private static final int MIN = Integer.MIN_VALUE, MAX = Integer.MAX_VALUE;
    private static final Due due = new Due("NetTest");

    public static void main(String[] args) {
        newObject();
        rider();
        riderOf();
        sinks();
        drifts();
        pays();
        change();
        remake();
        crowd();
        home();
        ends();
        anew();
        state();
        due.end();
    }

    private static void newObject() {
        due.promise(1);
        InnerCircle x = new InnerCircle();
        due.is("BAD", InnerCircle.BAD, -1);
        due.is("FULL", InnerCircle.FULL, -2);
        due.is("NONE", InnerCircle.NONE, -3);
        due.is("STATE", InnerCircle.STATE, -4);
        for (int what = 0; what <= 6; what++) due.is("many " + what, x.many(what), 0);
        due.is("again", x.again(), -3);
        due.is("TRAIN", x.state(0), 0);
        due.is("END", x.state(1), 12);
        due.is("SCORE", x.state(2), 0);
        for (int train = 0; train < 16; train++) due.is("crowd " + train, x.crowd(train, 5), 5);
        for (int f = 0; f < 6; f++) {
            due.is("GARDEN " + f, x.homeOf(f, 0), 0);
            due.is("POSTER " + f, x.homeOf(f, 1), 0);
        }
        due.is("z", x.seed(1), 1);
        for (int sheet = 0; sheet < 4; sheet++) due.is("sheet " + sheet, x.item(sheet, 0, 0), -11);
        for (int shelf = 0; shelf < 4; shelf++) due.is("shelf " + shelf, x.taken(shelf, 0), -11);
        x.rider(REGULAR, 0, 5, 0);
        due.is("the new one is as new", new InnerCircle().many(0), 0);
    }

    private static void rider() {
        due.promise(2);
        InnerCircle x = new InnerCircle();
        due.is("kind 0", x.rider(0, 1, 1, 1), -1);
        due.is("kind 6", x.rider(6, 1, 1, 1), -1);
        due.is("kind MIN", x.rider(MIN, 1, 1, 1), -1);
        due.is("depth -1", x.rider(1, -1, 1, 1), -1);
        due.is("depth 100", x.rider(1, 100, 1, 1), -1);
        due.is("wish -1", x.rider(1, 1, -1, 1), -1);
        due.is("wish 10", x.rider(1, 1, 10, 1), -1);
        due.is("home -1", x.rider(1, 1, 1, -1), -1);
        due.is("home 6", x.rider(1, 1, 1, 6), -1);
        due.is("home MAX", x.rider(1, 1, 1, MAX), -1);
        due.is("none came", x.many(0), 0);
        for (int k = 0; k < 6; k++) due.is("rider " + k, x.rider(k % 5 + 1, 99 - k, 9 - k, k), k);
        due.is("seventh", x.rider(1, 1, 1, 1), -2);
        due.is("BAD comes ahead of FULL", x.rider(0, 1, 1, 1), -1);
        due.is("six", x.many(0), 6);
    }

    private static void riderOf() {
        due.promise(3);
        InnerCircle x = new InnerCircle();
        x.rider(FATHER, 12, 7, 4);
        due.is("KIND", x.riderOf(0, 0), 3);
        due.is("DEPTH", x.riderOf(0, 1), 12);
        due.is("WISH", x.riderOf(0, 2), 7);
        due.is("HOME", x.riderOf(0, 3), 4);
        due.is("OUT", x.riderOf(0, 4), 0);
        due.is("AT", x.riderOf(0, 5), 4);
        due.is("SINKS", x.riderOf(0, 6), 5);
        due.is("DRIFTS", x.riderOf(0, 7), 0);
        due.is("PAYS", x.riderOf(0, 8), 15);
        due.is("MAY", x.riderOf(0, 9), 1);
        due.is("WILL", x.riderOf(0, 10), 0);
        due.is("what 11", x.riderOf(0, 11), -1);
        due.is("what -1", x.riderOf(0, -1), -1);
        due.is("k 1", x.riderOf(1, 0), -1);
        due.is("k -1", x.riderOf(-1, 0), -1);
        due.is("k MIN", x.riderOf(MIN, MIN), -1);
        x.change(0, 4, 1);
        due.is("OUT now", x.riderOf(0, 4), 1);
        due.is("who is OUT SINKS as well", x.riderOf(0, 6), 5);
        due.is("who is OUT PAYS 0", x.riderOf(0, 8), 0);
        due.is("who is OUT MAY not", x.riderOf(0, 9), 0);
        due.is("who is OUT has a WILL", x.riderOf(0, 10), 0);
        x.change(0, 4, 0);
        Due.rules(x, "lady ride;");
        due.is("WILL ride", x.riderOf(0, 10), 1);
        due.is("MAY not, for it rides", x.riderOf(0, 9), 0);
        Due.rules(x, "father stay;");
        due.is("WILL stay", x.riderOf(0, 10), 2);
    }

    private static void sinks() {
        due.promise(3);
        InnerCircle x = new InnerCircle();
        for (int kind = 1; kind <= 5; kind++) x.rider(kind, 0, 0, 2);
        x.rider(REGULAR, 0, 0, 3);
        // all five of stop 2 have four OTHERS; RUSH 3, LAMPS 2
        x.crowd(0, 14);
        due.is("regular with LAMPS", x.riderOf(0, 6), 0);
        due.is("lady", x.riderOf(1, 6), 14);
        due.is("father", x.riderOf(2, 6), 17);
        due.is("clerk", x.riderOf(3, 6), 5);
        due.is("barrier", x.riderOf(4, 6), 2);
        x.crowd(0, 12);
        due.is("regular without LAMPS", x.riderOf(0, 6), 1);
        due.is("clerk without LAMPS", x.riderOf(3, 6), 7);
        due.is("barrier without LAMPS", x.riderOf(4, 6), 3);
        // the regular goes OUT: four are left, three OTHERS for each, four for it
        x.change(0, 4, 1);
        due.is("lady, with one OUT", x.riderOf(1, 6), 12);
        x.change(1, 4, 1);
        due.is("lady, OUT herself", x.riderOf(1, 6), 12);
        due.is("father, with two OUT", x.riderOf(2, 6), 13);
        x.change(2, 5, 0);
        x.crowd(0, 3);
        due.is("father alone, no RUSH", x.riderOf(2, 6), 3);
        due.is("clerk, 0 at least", x.riderOf(3, 6), 0);
    }

    private static void drifts() {
        due.promise(3);
        InnerCircle x = new InnerCircle();
        for (int kind = 1; kind <= 5; kind++) x.rider(kind, 0, 0, 0);
        x.ends(16);
        for (int train = 0; train <= 16; train++) {
            boolean odd = train % 2 == 1;
            due.is("regular in " + train, x.riderOf(0, 7), 1);
            due.is("lady in " + train, x.riderOf(1, 7), odd ? 1 : 0);
            due.is("father in " + train, x.riderOf(2, 7), odd ? 2 : 0);
            due.is("clerk in " + train, x.riderOf(3, 7), odd ? 0 : 1);
            due.is("barrier in " + train, x.riderOf(4, 7), (odd ? 0 : 1) + (train > 7 ? 2 : 0));
            x.train();
        }
    }

    private static void pays() {
        due.promise(3);
        InnerCircle x = new InnerCircle();
        x.rider(REGULAR, 13, 4, 1);
        x.home(1, 0, 6);
        x.home(2, 0, 3);
        due.is("at HOME: 4 + 6 + 9 - 1", x.riderOf(0, 8), 18);
        x.change(0, 1, 14);
        due.is("at HOME: 4 + 6 + 9 - 2", x.riderOf(0, 8), 17);
        x.change(0, 5, 2);
        due.is("elsewhere: 4 + 3 + 2 - 2", x.riderOf(0, 8), 7);
        x.change(0, 1, 99);
        x.change(0, 2, 0);
        due.is("elsewhere, deep: 0 + 3 + 2 - 14 is 0 at least", x.riderOf(0, 8), 0);
        due.is("who PAYS 0 MAY not", x.riderOf(0, 9), 0);
        due.is("who PAYS 0 WILL all the same", x.riderOf(0, 10), 0);
    }

    private static void change() {
        due.promise(4);
        InnerCircle x = new InnerCircle();
        x.rider(CLERK, 10, 2, 3);
        due.is("DEPTH", x.change(0, 1, 99), 10);
        due.is("DEPTH is", x.riderOf(0, 1), 99);
        due.is("DEPTH 100", x.change(0, 1, 100), -1);
        due.is("DEPTH -1", x.change(0, 1, -1), -1);
        due.is("WISH", x.change(0, 2, 9), 2);
        due.is("WISH is", x.riderOf(0, 2), 9);
        due.is("WISH 10", x.change(0, 2, 10), -1);
        due.is("HOME", x.change(0, 3, 5), 3);
        due.is("HOME is", x.riderOf(0, 3), 5);
        due.is("it is AT the STOP where it was", x.riderOf(0, 5), 3);
        due.is("HOME 6", x.change(0, 3, 6), -1);
        due.is("OUT", x.change(0, 4, 1), 0);
        due.is("OUT is", x.state(4), 1);
        due.is("OUT 2", x.change(0, 4, 2), -1);
        due.is("not OUT", x.change(0, 4, 0), 1);
        due.is("not OUT is", x.state(4), 0);
        due.is("AT", x.change(0, 5, 0), 3);
        due.is("AT is", x.riderOf(0, 5), 0);
        due.is("AT 6", x.change(0, 5, 6), -1);
        due.is("AT -1", x.change(0, 5, -1), -1);
        due.is("what 0", x.change(0, 0, 1), -1);
        due.is("what 6", x.change(0, 6, 1), -1);
        due.is("k 1", x.change(1, 1, 1), -1);
        due.is("k -1", x.change(-1, 1, 1), -1);
        due.is("what was refused changed nothing", x.riderOf(0, 1) * 1000 + x.riderOf(0, 2) * 100
                + x.riderOf(0, 3) * 10 + x.riderOf(0, 5), 99950);
    }

    private static void remake() {
        due.promise(5);
        InnerCircle x = new InnerCircle();
        x.rider(CLERK, 10, 2, 3);
        due.is("to lady", x.remake(0, LADY), 4);
        due.is("is lady", x.riderOf(0, 0), 2);
        due.is("sinks as one", x.riderOf(0, 6), 2);
        due.is("DEPTH stays", x.riderOf(0, 1), 10);
        due.is("kind 0", x.remake(0, 0), -1);
        due.is("kind 6", x.remake(0, 6), -1);
        due.is("k 1", x.remake(1, 1), -1);
        due.is("k -1", x.remake(-1, 1), -1);
        due.is("to barrier", x.remake(0, BARRIER), 2);
    }

    private static void crowd() {
        due.promise(6);
        InnerCircle x = new InnerCircle();
        x.rider(LADY, 0, 0, 0);
        due.is("train 0", x.crowd(0, 15), 5);
        due.is("again", x.crowd(0, 8), 15);
        due.is("lady sinks by RUSH 2", x.riderOf(0, 6), 4);
        due.is("train 15", x.crowd(15, 0), 5);
        due.is("train 16", x.crowd(16, 0), -1);
        due.is("train -1", x.crowd(-1, 0), -1);
        due.is("v 16", x.crowd(1, 16), -1);
        due.is("v -1", x.crowd(1, -1), -1);
        due.is("train 1 is as it was", x.crowd(1, 5), 5);
    }

    private static void home() {
        due.promise(7);
        InnerCircle x = new InnerCircle();
        due.is("GARDEN", x.home(5, 0, 9), 0);
        due.is("POSTER", x.home(5, 1, 4), 0);
        due.is("GARDEN was", x.home(5, 0, 0), 9);
        due.is("POSTER was", x.home(5, 1, 0), 4);
        due.is("v 10", x.home(0, 0, 10), -1);
        due.is("v -1", x.home(0, 1, -1), -1);
        due.is("what 2", x.home(0, 2, 1), -1);
        due.is("what -1", x.home(0, -1, 1), -1);
        due.is("f 6", x.home(6, 0, 1), -1);
        due.is("f -1", x.home(-1, 0, 1), -1);
        due.promise(8);
        x.home(3, 0, 7);
        x.home(3, 1, 2);
        due.is("GARDEN of 3", x.homeOf(3, 0), 7);
        due.is("POSTER of 3", x.homeOf(3, 1), 2);
        due.is("GARDEN of 2", x.homeOf(2, 0), 0);
        due.is("of what 2", x.homeOf(3, 2), -1);
        due.is("of what -1", x.homeOf(3, -1), -1);
        due.is("of f 6", x.homeOf(6, 0), -1);
        due.is("of f -1", x.homeOf(-1, 1), -1);
    }

    private static void ends() {
        due.promise(9);
        InnerCircle x = new InnerCircle();
        due.is("to 3", x.ends(3), 12);
        due.is("0", x.ends(0), -1);
        due.is("17", x.ends(17), -1);
        x.train();
        x.train();
        due.is("below TRAIN", x.ends(1), -4);
        due.is("0 is BAD, not below TRAIN", x.ends(0), -1);
        due.is("END is", x.state(1), 3);
        due.is("TRAIN itself", x.ends(2), 3);
        due.is("it is OVER", x.state(3), 1);
        due.is("to 16", x.ends(16), 2);
        due.is("it is not OVER", x.state(3), 0);
    }

    private static void anew() {
        due.promise(10);
        InnerCircle x = new InnerCircle();
        x.rider(REGULAR, 20, 5, 1);
        x.rider(LADY, 30, 5, 2);
        x.train();
        x.train();
        x.train();
        x.change(1, 5, 5);
        due.is("some are OUT", x.state(4), 3);
        int deep = x.riderOf(1, 1);
        due.is("TRAIN was", x.anew(), 3);
        due.is("TRAIN", x.state(0), 0);
        due.is("SCORE", x.state(2), 0);
        due.is("OUT", x.state(4), 0);
        due.is("AT 0", x.riderOf(0, 5), 1);
        due.is("AT 1", x.riderOf(1, 5), 2);
        due.is("DEPTH stays", x.riderOf(1, 1), deep);
        due.is("once more", x.anew(), 0);
    }

    private static void state() {
        due.promise(11);
        InnerCircle x = new InnerCircle();
        x.rider(REGULAR, 0, 5, 1);
        x.rider(LADY, 0, 5, 2);
        x.rider(CLERK, 0, 5, 3);
        x.crowd(0, 9);
        x.crowd(1, 6);
        due.is("CROWD of TRAIN 0", x.state(5), 9);
        due.is("all AT HOME", x.state(6), 7);
        // TRAIN 0: the regular exits (5 + 9) and stays AT HOME, the lady doesn't drift (1), the clerk does
        due.is("train", x.train(), 15);
        due.is("TRAIN", x.state(0), 1);
        due.is("SCORE", x.state(2), 15);
        due.is("not OVER", x.state(3), 0);
        due.is("OUT", x.state(4), 1);
        due.is("CROWD of TRAIN 1", x.state(5), 6);
        due.is("AT HOME, OUT or not", x.state(6), 3);
        x.ends(1);
        due.is("OVER", x.state(3), 1);
        due.is("END", x.state(1), 1);
        due.is("what 7", x.state(7), -1);
        due.is("what -1", x.state(-1), -1);
        InnerCircle y = new InnerCircle();
        y.ends(16);
        for (int i = 0; i < 16; i++) y.train();
        due.is("TRAIN 16", y.state(0), 16);
        due.is("CROWD behind TRAIN 15", y.state(5), 0);
    }
}
