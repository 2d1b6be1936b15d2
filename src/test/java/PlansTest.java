/** Promises 23 to 29 and 37 to 40: plans, a game, rows. */
final class PlansTest {
    private static final int REGULAR = 1, LADY = 2, CLERK = 4;
    private static final Due due = new Due("PlansTest");

    public static void main(String[] args) {
        best();
        ith();
        ways();
        ticket();
        bars();
        game();
        play();
        rows();
        judge();
        due.end();
    }

    private static void best() {
        due.promise(23);
        InnerCircle x = Due.ladies();
        due.is("0", x.best(0), 0);
        // the one told first PAYS, the other one is AT HOME then and exits later
        due.is("1: lady 1 exits, 0 is AT HOME", x.best(1), 14);
        due.is("2: both", x.best(2), 24);
        due.is("5", x.best(5), -1);
        due.is("-1", x.best(-1), -1);
        due.is("nobody", new InnerCircle().best(4), 0);
        due.is("nothing changed", x.state(0) + x.state(2) + x.state(4), 0);
        x.ends(1);
        due.is("fewer, for it is OVER", x.best(4), 14);
        x.train();
        due.is("OVER", x.best(4), 0);
    }

    private static void ith() {
        due.promise(24);
        InnerCircle x = Due.ladies();
        due.is("1, 0", x.ith(1, 0), 2);
        // 10 + 1 and 13, or 13 + 1 and 10: 24 both; the lesser ACT goes first
        due.is("2, 0", x.ith(2, 0), 1);
        due.is("2, 1", x.ith(2, 1), 2);
        due.is("2, 2", x.ith(2, 2), -3);
        due.is("0, 0", x.ith(0, 0), -3);
        due.is("2, 4", x.ith(2, 4), -1);
        due.is("2, -1", x.ith(2, -1), -1);
        due.is("5, 0", x.ith(5, 0), -1);
        due.is("-1, 0", x.ith(-1, 0), -1);
        x.ends(1);
        due.is("4, 1 when one TRAIN is left", x.ith(4, 1), -3);
        due.is("4, 0 when one TRAIN is left", x.ith(4, 0), 2);
        InnerCircle y = new InnerCircle();
        due.is("nobody", y.ith(4, 3), 0);
    }

    private static void ways() {
        due.promise(25);
        InnerCircle x = Due.ladies();
        due.is("0", x.ways(0), 1);
        due.is("1", x.ways(1), 1);
        due.is("2", x.ways(2), 2);
        due.is("5", x.ways(5), -1);
        due.is("-1", x.ways(-1), -1);
        Due.rules(x, "rider stay;");
        due.is("who stays may be told in any way", x.ways(4), 81);
        Due.rules(x, "");
        x.change(0, 4, 1);
        x.change(1, 4, 1);
        due.is("so may who is OUT", x.ways(3), 27);
        x.ends(2);
        due.is("two TRAINS are left", x.ways(3), 9);
        x.train();
        x.train();
        due.is("OVER", x.ways(4), 1);
        due.is("nobody", new InnerCircle().ways(4), 1);
        InnerCircle y = Due.ladies();
        y.change(0, 4, 1);
        // AT HOME behind TRAIN 0 she is WORTH 1 more, so she is told ahead of TRAIN 1: behind ACT 0, or that of who is OUT
        due.is("she exits second", y.ways(2), 2);
        y.remake(1, REGULAR);
        // a regular drifts away: it exits first, and then any of the three ACTS will do
        due.is("it exits first", y.ways(2), 3);
    }

    private static void ticket() {
        due.promise(26);
        InnerCircle x = Due.ladies();
        due.is("none of them", x.ticket(4, 0), 0);
        due.is("one", x.ticket(1, 1), 1);
        due.is("the other", x.ticket(1, 2), 1);
        due.is("both by 2", x.ticket(2, 3), 2);
        due.is("both by 1", x.ticket(1, 3), -3);
        due.is("one by 0", x.ticket(0, 1), -3);
        due.is("no such RIDER", x.ticket(2, 4), -1);
        due.is("-1", x.ticket(2, -1), -1);
        due.is("n 5", x.ticket(5, 1), -1);
        due.is("n -1", x.ticket(-1, 1), -1);
        x.change(0, 4, 1);
        due.is("OUT already", x.ticket(0, 1), 0);
        due.is("the rest", x.ticket(3, 3), 1);
        Due.rules(x, "lady if train<2 ride;");
        due.is("two TRAINS too soon", x.ticket(2, 2), -3);
        due.is("in the third", x.ticket(3, 2), 1);
        x.change(1, 1, 99);
        Due.rules(x, "lady if depth>50 ride;");
        x.home(2, 1, 9);
        due.is("rides don't do", x.ticket(4, 2), -3);
        x.change(1, 1, 58);
        // behind a ride she PAYS 4 + 0 + 2 - 7, by a GARDEN 3 more
        due.is("a ride, but she PAYS nothing there", x.ticket(4, 2), -3);
        x.home(2, 0, 3);
        due.is("one ride, one exit", x.ticket(4, 2), 2);
    }

    private static void bars() {
        due.promise(27);
        InnerCircle x = Due.ladies();
        x.rider(CLERK, 99, 0, 2);
        due.is("each by itself", x.bars(1, 3), -3);
        due.is("nobody by 0", x.bars(0, 7), 0);
        due.is("nobody by 0 of two", x.bars(0, 6), 1);
        due.is("the clerk", x.bars(4, 7), 2);
        due.is("no such RIDER", x.bars(4, 8), -1);
        due.is("-1", x.bars(4, -1), -1);
        due.is("n 5", x.bars(5, 1), -1);
        due.is("n -1", x.bars(-1, 1), -1);
        due.is("none of them", x.bars(0, 0), -3);
        x.change(0, 4, 1);
        due.is("OUT already", x.bars(0, 1), -3);
        due.is("the next", x.bars(0, 3), 1);
    }

    private static void game() {
        due.promise(28);
        InnerCircle x = Due.ladies();
        due.is("1 is the best one", x.game(1), 14);
        // behind 13 + 1 the other one lets lady 0 drift away: 0; behind 10 + 1 likewise
        due.is("2", x.game(2), 14);
        due.is("0", x.game(0), -1);
        due.is("5", x.game(5), -1);
        due.is("-1", x.game(-1), -1);
        due.is("nobody", new InnerCircle().game(4), 0);
        InnerCircle y = new InnerCircle();
        y.rider(LADY, 63, 1, 0);
        y.home(1, 1, 9);
        y.crowd(0, 1);
        Due.rules(y, "lady if train=0 ride;");
        // told, she rides (1) to 1 and is less deep; then the other one tells her or not
        due.is("a ride", y.game(1), 1);
        x.ends(1);
        due.is("fewer, for it is OVER", x.game(4), 14);
        x.train();
        due.is("OVER", x.game(4), 0);
    }

    private static void play() {
        due.promise(29);
        InnerCircle x = Due.ladies();
        due.is("1", x.play(1), 2);
        due.is("2", x.play(2), 2);
        due.is("0", x.play(0), -1);
        due.is("5", x.play(5), -1);
        Due.rules(x, "rider stay;");
        due.is("all one: the least", x.play(3), 0);
        x.ends(1);
        x.train();
        due.is("OVER", x.play(3), -3);
        due.is("BAD comes first", x.play(5), -1);
        InnerCircle y = new InnerCircle();
        y.rider(REGULAR, 0, 0, 0);
        y.rider(REGULAR, 0, 0, 0);
        due.is("two alike: the lesser ACT", y.play(1), 1);
    }

    private static void rows() {
        due.promise(37);
        InnerCircle x = Due.ladies();
        due.is("prove 0", x.prove(0), 0);
        due.is("no ROW", x.row(0, 0), -9);
        due.is("prove 2", x.prove(2), 2);
        due.is("prove 5", x.prove(5), -1);
        due.is("prove -1", x.prove(-1), -1);
        due.is("two still", x.many(4), 2);
        due.promise(38);
        due.is("ACT 0", x.row(0, 0), 1);
        due.is("WORTH 0", x.row(0, 1), 11);
        due.is("OUT 0", x.row(0, 2), 1);
        due.is("ACT 1", x.row(1, 0), 2);
        due.is("WORTH 1", x.row(1, 1), 13);
        due.is("OUT 1", x.row(1, 2), 3);
        due.is("row 2", x.row(2, 0), -9);
        due.is("row -1", x.row(-1, 0), -9);
        due.is("what 3", x.row(0, 3), -9);
        due.is("what -1", x.row(0, -1), -9);
        due.promise(39);
        due.is("alter", x.alterRow(1, 2, -77), 3);
        due.is("altered", x.row(1, 2), -77);
        due.is("alter it back", x.alterRow(1, 2, 3), -77);
        due.is("alter 2", x.alterRow(2, 0, 1), -9);
        due.is("alter -1", x.alterRow(-1, 0, 1), -9);
        due.is("alter what 3", x.alterRow(0, 3, 1), -9);
        due.is("alter what -1", x.alterRow(0, -1, 1), -9);
        due.promise(37);
        x.ends(1);
        due.is("fewer, for it is OVER", x.prove(4), 1);
        due.is("row 1 is gone", x.row(1, 0), -9);
        due.is("prove 0 empties", x.prove(0), 0);
        due.is("many", x.many(4), 0);
    }

    private static void judge() {
        due.promise(40);
        InnerCircle x = Due.ladies();
        due.is("no ROWS", x.judge(), 0);
        x.prove(3);
        due.is("all right", x.judge(), 0);
        due.is("nothing changed", x.state(0), 0);
        x.alterRow(2, 2, 2);
        due.is("OUT of the third", x.judge(), 3);
        x.alterRow(1, 1, 5);
        due.is("WORTH of the second", x.judge(), 2);
        x.alterRow(0, 0, 3);
        due.is("ACT of the first is none", x.judge(), 1);
        x.alterRow(0, 0, -1);
        due.is("nor is this", x.judge(), 1);
        x.alterRow(0, 0, Integer.MIN_VALUE);
        due.is("nor this", x.judge(), 1);
        x.prove(3);
        // the third TRAIN: ACT 0 does as well as the ACT of one who is OUT
        due.is("ACT of the third", x.row(2, 0), 0);
        x.alterRow(2, 0, 2);
        due.is("an ACT that does as well is right", x.judge(), 0);
        x.ends(2);
        due.is("OVER ahead of the third", x.judge(), 3);
        x.train();
        due.is("from how it is now", x.judge(), 1);
    }
}
