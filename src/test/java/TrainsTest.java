/** Promises 14 to 22: trains, who is lost, how soon one may be somewhere, carriages, the press. */
final class TrainsTest {
    private static final int REGULAR = 1, LADY = 2, FATHER = 3, CLERK = 4, BARRIER = 5;
    private static final Due due = new Due("TrainsTest");

    public static void main(String[] args) {
        train();
        deeds();
        sinking();
        on();
        when();
        wishFor();
        homeFor();
        lost();
        reach();
        carriages();
        press();
        allSixteen();
        due.end();
    }

    private static void train() {
        due.promise(14);
        InnerCircle x = new InnerCircle();
        x.ends(3);
        x.rider(REGULAR, 0, 0, 0);
        x.rider(LADY, 0, 1, 1);
        x.rider(LADY, 99, 0, 2);
        x.home(2, 0, 4);
        // lady 2 PAYS 13 - 14: she MAY not come up
        due.is("the regular: 9, both ladies AT HOME", x.train(), 11);
        due.is("OUT", x.state(4), 1);
        due.is("the lady: 10; the other drifts", x.train(), 10);
        due.is("OUT", x.state(4), 3);
        due.is("nobody MAY", x.train(), 0);
        due.is("OUT", x.state(4), 3);
        due.is("OVER", x.train(), -4);
        due.is("SCORE", x.state(2), 21);
        due.is("TRAIN", x.state(0), 3);
        InnerCircle y = new InnerCircle();
        due.is("nobody is there", y.train(), 0);
        due.is("it went by all the same", y.state(0), 1);
    }

    /** What goAll tells one RIDER, ahead of one TRAIN. */
    private static int tell(InnerCircle x, int act) {
        x.sheet(0, 0, 1);
        x.write(0, 0, act);
        return x.goAll(0, 0, 1);
    }

    private static void deeds() {
        due.promise(14);
        InnerCircle x = new InnerCircle();
        x.rider(LADY, 20, 3, 5);
        x.home(0, 1, 8);
        Due.rules(x, "rider ride;");
        due.is("in THE REST nobody rides", x.on(1), 1);
        // told she rides to 0 (WORTH 1 by LAMPS), 20 - 8, sinks 2; even TRAIN: no drift; not AT HOME
        due.is("ride by LAMPS", tell(x, 1), 1);
        due.is("AT the next STOP, 0 behind 5", x.riderOf(0, 5), 0);
        due.is("DEPTH less by the POSTER there", x.riderOf(0, 1), 14);
        x.crowd(1, 0);
        x.change(0, 5, 5);
        x.change(0, 1, 3);
        // TRAIN 1, no RUSH, no LAMPS: to 0, DEPTH 0 at least, drifts to 1
        due.is("ride without LAMPS", tell(x, 1), 0);
        due.is("DEPTH 0 at least", x.riderOf(0, 1), 0);
        due.is("rode and drifted", x.riderOf(0, 5), 1);
        Due.rules(x, "rider stay;");
        due.is("stay", tell(x, 1), 0);
        due.is("stays not OUT", x.state(4), 0);
        Due.rules(x, "");
        x.change(0, 5, 3);
        x.change(0, 1, 98);
        x.change(0, 2, 9);
        // 9 + 2 - 14: PAYS 0
        due.is("exit that PAYS 0", tell(x, 1), 0);
        due.is("is not OUT by it", x.state(4), 0);
        x.change(0, 1, 70);
        due.is("exit that PAYS 1", tell(x, 1), 1);
        due.is("is OUT by it", x.state(4), 1);
        int at = x.riderOf(0, 5), deep = x.riderOf(0, 1);
        x.change(0, 3, at);
        due.is("who is OUT is told in vain", tell(x, 1), 0);
        due.is("and doesn't drift", x.riderOf(0, 5), at);
        due.is("nor sink", x.riderOf(0, 1), deep);
    }

    private static void sinking() {
        due.promise(14);
        InnerCircle x = new InnerCircle();
        // all AT 0 as (2) begins: the regular drifts first, and counts for the others all the same
        x.rider(REGULAR, 0, 0, 0);
        x.rider(LADY, 0, 0, 0);
        x.rider(BARRIER, 97, 0, 0);
        Due.rules(x, "rider stay;");
        x.crowd(0, 8);
        due.is("the lady alone is AT HOME then", x.train(), 1);
        due.is("regular", x.riderOf(0, 1), 1);
        due.is("lady: twice RUSH 2 and 2 OTHERS", x.riderOf(1, 1), 8);
        due.is("barrier: half of 4, 99 at most", x.riderOf(2, 1), 99);
        x.change(1, 1, 98);
        due.is("train 1", x.train(), 0);
        due.is("99 at most", x.riderOf(1, 1), 99);
        InnerCircle y = new InnerCircle();
        y.rider(REGULAR, 0, 0, 0);
        y.rider(LADY, 0, 0, 0);
        due.is("the regular exits, the lady is alone then", y.train(), 10);
        due.is("so she sinks by RUSH alone", y.riderOf(1, 1), 2);
        y.change(0, 4, 0);
        y.change(0, 5, 5);
        Due.rules(y, "regular stay;");
        due.is("round the circle to HOME: 1; the lady exits: 9", y.train(), 10);
    }

    private static void on() {
        due.promise(15);
        InnerCircle x = new InnerCircle();
        x.rider(REGULAR, 0, 0, 0);
        x.rider(LADY, 0, 1, 1);
        x.ends(2);
        due.is("0", x.on(0), 0);
        due.is("1", x.on(1), 10);
        due.is("2", x.on(2), 20);
        due.is("16, but it is OVER at 2", x.on(16), 20);
        due.is("17", x.on(17), -1);
        due.is("-1", x.on(-1), -1);
        due.is("nothing changed", x.state(0) + x.state(2) + x.state(4), 0);
        due.is("DEPTH neither", x.riderOf(1, 1), 0);
        x.train();
        x.train();
        due.is("OVER", x.on(5), 0);
        due.is("CROWDS behind TRAIN 15 aren't asked", x.ends(16), 2);
    }

    private static void when() {
        due.promise(16);
        InnerCircle x = new InnerCircle();
        x.rider(LADY, 0, 0, 0);
        x.rider(LADY, 0, 0, 1);
        x.rider(LADY, 99, 0, 2);
        x.ends(5);
        due.is("0", x.when(0), 0);
        due.is("1", x.when(1), 1);
        due.is("2 PAYS nothing", x.when(2), -3);
        due.is("3", x.when(3), -1);
        due.is("-1", x.when(-1), -1);
        x.train();
        due.is("0 is OUT now", x.when(0), -3);
        due.is("1 by the TRAIN's number", x.when(1), 1);
        x.ends(1);
        due.is("OVER", x.when(1), -3);
        due.is("nothing changed", x.state(4), 1);
    }

    private static void wishFor() {
        due.promise(17);
        InnerCircle x = new InnerCircle();
        x.rider(REGULAR, 0, 3, 0);
        x.rider(LADY, 0, 0, 1);
        due.is("the most", x.wishFor(0), 9);
        due.is("WISH is as it was", x.riderOf(0, 2), 3);
        // with wish 4 it exits at once; with others it rides and never comes up
        Due.rules(x, "regular if not wish=4 stay;");
        due.is("by a RULE", x.wishFor(0), 4);
        Due.rules(x, "rider stay;");
        due.is("of several the least", x.wishFor(0), 0);
        Due.rules(x, "");
        x.change(0, 4, 1);
        due.is("OUT: it is all one", x.wishFor(0), 0);
        due.is("2", x.wishFor(2), -1);
        due.is("-1", x.wishFor(-1), -1);
        due.is("OVER", over(x).wishFor(1), 0);
    }

    private static InnerCircle over(InnerCircle x) {
        x.ends(1);
        x.train();
        return x;
    }

    private static void homeFor() {
        due.promise(18);
        InnerCircle x = new InnerCircle();
        x.rider(LADY, 0, 3, 4);
        x.ends(1);
        due.is("where she is: 12 against 5", x.homeFor(0), 4);
        x.change(0, 5, 2);
        due.is("AT 2 now", x.homeFor(0), 2);
        due.is("HOME is as it was", x.riderOf(0, 3), 4);
        due.is("AT as it was", x.riderOf(0, 5), 2);
        Due.rules(x, "rider stay;");
        x.remake(0, REGULAR);
        due.is("where it drifts to", x.homeFor(0), 3);
        x.change(0, 4, 1);
        due.is("OUT: the least", x.homeFor(0), 0);
        due.is("1", x.homeFor(1), -1);
        due.is("-1", x.homeFor(-1), -1);
    }

    private static void lost() {
        due.promise(19);
        InnerCircle x = new InnerCircle();
        Due.rules(x, "rider stay;");
        x.rider(LADY, 46, 0, 0);
        x.rider(FATHER, 50, 0, 1);
        x.rider(REGULAR, 49, 0, 2);
        due.is("two a TRAIN", x.lost(0), 2);
        due.is("now", x.lost(1), 0);
        due.is("never", x.lost(2), -3);
        due.is("3", x.lost(3), -1);
        due.is("-1", x.lost(-1), -1);
        x.ends(2);
        due.is("as it is OVER", x.lost(0), 2);
        x.ends(1);
        due.is("OVER ahead of it", x.lost(0), -3);
        x.train();
        due.is("now, and OVER", x.lost(1), 1);
        Due.rules(x, "");
        x.anew();
        x.change(0, 1, 48);
        due.is("who comes up sinks no more", x.lost(0), -3);
        x.change(0, 1, 50);
        x.change(0, 4, 1);
        due.is("now, and OUT", x.lost(0), 0);
    }

    private static void reach() {
        due.promise(20);
        InnerCircle x = new InnerCircle();
        x.rider(REGULAR, 0, 0, 0);
        x.rider(LADY, 0, 0, 0);
        x.rider(FATHER, 0, 0, 0);
        x.rider(CLERK, 0, 0, 0);
        x.rider(BARRIER, 0, 0, 0);
        int[][] due0 = {{0, 1, 1, 2, 2, 3}, {0, 1, 2, 2, 3, 4}, {0, 1, 2, 2, 2, 3}, {0, 1, 1, 2, 3, 3}, {0, 1, 1, 2, 3, 3}};
        for (int k = 0; k < 5; k++) {
            for (int f = 0; f < 6; f++) due.is("reach " + k + " to " + f, x.reach(k, f), due0[k][f]);
        }
        due.is("k 5", x.reach(5, 0), -1);
        due.is("k -1", x.reach(-1, 0), -1);
        due.is("f 6", x.reach(0, 6), -1);
        due.is("f -1", x.reach(0, -1), -1);
        Due.rules(x, "rider stay;");
        x.ends(8);
        for (int i = 0; i < 8; i++) x.train();
        x.change(4, 5, 0);
        x.change(4, 4, 1);
        // TRAIN 8: OVER, OUT and WILL don't count; it drifts 3, then 2
        due.is("barrier to 0", x.reach(4, 0), 0);
        due.is("barrier to 3", x.reach(4, 3), 1);
        due.is("barrier to 4", x.reach(4, 4), 1);
        due.is("barrier to 5", x.reach(4, 5), 2);
        due.is("barrier to 1", x.reach(4, 1), 2);
    }

    private static void carriages() {
        due.promise(21);
        InnerCircle x = new InnerCircle();
        due.is("none", x.carriages(-1), 0);
        x.rider(REGULAR, 10, 0, 0);
        x.rider(REGULAR, 14, 0, 1);
        x.rider(REGULAR, 19, 0, 2);
        x.rider(REGULAR, 50, 0, 3);
        x.rider(REGULAR, 90, 0, 3);
        x.rider(REGULAR, 94, 0, 4);
        due.is("three", x.carriages(-1), 3);
        due.is("4 apart", x.carriages(0), 3);
        due.is("and back", x.carriages(1), 3);
        due.is("5 apart", x.carriages(2), 4);
        due.is("by the STOP, then by DEPTH", x.carriages(3), 56);
        due.is("by one another", x.carriages(5), 56);
        due.is("of -2", x.carriages(-2), -1);
        due.is("of 6", x.carriages(6), -1);
        x.change(4, 4, 1);
        due.is("OUT hangs with nobody", x.carriages(4), 0);
        due.is("nor through it", x.carriages(3), 8);
        due.is("four", x.carriages(-1), 4);
        x.change(2, 1, 16);
        x.change(2, 5, 5);
        due.is("a chain", x.carriages(2), 7);
        InnerCircle y = new InnerCircle();
        y.rider(REGULAR, 40, 0, 0);
        y.rider(REGULAR, 20, 0, 1);
        y.rider(REGULAR, 36, 0, 2);
        y.rider(REGULAR, 24, 0, 3);
        y.rider(REGULAR, 32, 0, 4);
        y.rider(REGULAR, 28, 0, 5);
        due.is("the longest chain", y.carriages(0), 63);
        due.is("is one", y.carriages(-1), 1);
        due.is("of 6 still", y.carriages(6), -1);
    }

    private static void allSixteen() {
        InnerCircle x = new InnerCircle();
        x.ends(16);
        for (int train = 0; train < 16; train++) x.crowd(train, 0);
        x.rider(REGULAR, 34, 9, 0);
        Due.rules(x, "rider if train=15 exit; rider stay;");
        due.promise(16);
        due.is("OUT behind the last TRAIN", x.when(0), 15);
        due.promise(15);
        // AT HOME behind TRAINS 5 and 11; it exits AT 3, 49 deep: 9 + 2 - 7
        due.is("16 TRAINS", x.on(16), 6);
        due.is("15 TRAINS", x.on(15), 2);
        due.promise(22);
        due.is("behind 15", x.press(15, 0), 3);
        due.is("behind 16", x.press(16, 1), 0);
        due.promise(19);
        due.is("not lost by 16, for it is OUT", x.lost(0), -3);
        Due.rules(x, "rider stay;");
        due.is("lost as it is 16", x.lost(0), 16);
        x.change(0, 1, 35);
        due.is("lost as it is 15", x.lost(0), 15);
        for (int i = 0; i < 16; i++) x.train();
        due.is("lost, and OVER", x.lost(0), 16);
        due.promise(14);
        due.is("there is no TRAIN 16", x.train(), -4);
    }

    private static void press() {
        due.promise(22);
        InnerCircle x = new InnerCircle();
        due.is("nobody: STOP", x.press(3, 0), 0);
        due.is("nobody: how many", x.press(3, 1), 0);
        x.rider(LADY, 0, 0, 5);
        x.rider(LADY, 0, 0, 4);
        x.rider(LADY, 0, 0, 4);
        due.is("two AT 4", x.press(0, 0), 4);
        due.is("are two", x.press(0, 1), 2);
        // TRAIN 0: the lady of 5 exits; TRAIN 1: one of 4, the other one drifts to 5
        due.is("behind 1", x.press(1, 0), 4);
        due.is("behind 1 two", x.press(1, 1), 2);
        due.is("behind 2", x.press(2, 0), 5);
        due.is("behind 2 one", x.press(2, 1), 1);
        due.is("behind 3 nobody", x.press(3, 1), 0);
        due.is("behind 3 STOP 0", x.press(3, 0), 0);
        x.change(2, 5, 2);
        due.is("of several the least", x.press(0, 0), 2);
        x.ends(1);
        due.is("OVER behind 1", x.press(16, 1), 1);
        due.is("17", x.press(17, 0), -1);
        due.is("-1", x.press(-1, 0), -1);
        due.is("what 2", x.press(0, 2), -1);
        due.is("what -1", x.press(0, -1), -1);
    }
}
