import java.util.Random;

/** Runs of calls by chance (always the same ones): each must answer as the Model does, and throw nothing. */
final class ModelTest {
    private static final int RUNS = 2000, CALLS = 400;
    private static final int[] WILD = {-1, -2, -3, -100, 5, 6, 7, 16, 17, 40, 41, 100, 200, 1000,
        Integer.MIN_VALUE, Integer.MAX_VALUE, Integer.MIN_VALUE + 1, 1 << 16, -32768};

    private final Random random;
    private final InnerCircle x = new InnerCircle();
    private final Model model = new Model();
    private final StringBuilder told = new StringBuilder();
    private boolean isRight = true;

    private ModelTest(long seed) {
        random = new Random(seed);
    }

    public static void main(String[] args) {
        long started = args.length > 1 ? Long.parseLong(args[1]) : 0;
        int runs = args.length > 2 ? Integer.parseInt(args[2]) : RUNS;
        int wrong = 0;
        for (long seed = started; seed < started + runs && wrong < 3; seed++) {
            if (!new ModelTest(seed).run()) {
                wrong++;
                System.out.println("in the run of seed " + seed);
            }
        }
        System.out.println("ModelTest: " + runs + " runs, " + wrong + " not as due");
        if (wrong != 0) System.exit(1);
    }

    private boolean run() {
        boolean isBusy = random.nextInt(8) != 0;
        int riders = isBusy ? random.nextInt(7) : 0;
        for (int i = 0; i < riders; i++) call(0);
        if (isBusy && random.nextInt(3) != 0) text();
        for (int i = 0; i < CALLS && isRight; i++) {
            int which = random.nextInt(66);
            // what asks for all PLANS is dear for the Model
            if (which >= 22 && which <= 28 || which == 35) which = random.nextInt(4) == 0 ? which : random.nextInt(22);
            if (which < 58) call(which);
            else if (which < 60) text();
            else if (which < 62) fill();
            else if (which < 64) call(13);
            else call(53);
        }
        if (isRight) look();
        return isRight;
    }

    private void due(String call, int got, int want) {
        told.append(call).append(" = ").append(want).append('\n');
        if (got == want || !isRight) return;
        isRight = false;
        String all = told.toString();
        System.out.print(all.substring(Math.max(0, all.length() - 3000)));
        System.out.println(call + " answered " + got + ", due is " + want);
    }

    /** Mostly from least to most; now and then just outside, or anything. */
    private int some(int least, int most) {
        int chance = random.nextInt(40);
        if (chance == 0) return WILD[random.nextInt(WILD.length)];
        if (chance == 1) return random.nextBoolean() ? least - 1 : most + 1;
        return least + random.nextInt(most - least + 1);
    }

    private int k() {
        return some(0, Math.max(0, x.many(0) - 1));
    }

    private int anyInt() {
        return random.nextInt(3) == 0 ? random.nextInt() : random.nextInt(600) - 300;
    }

    private int set() {
        return some(0, (1 << x.many(0)) - 1);
    }

    private String value() {
        String[] names = {"train", "depth", "wish", "rush", "number"};
        int chance = random.nextInt(12);
        if (chance < 7) return names[random.nextInt(5)];
        return "" + (chance == 7 ? random.nextInt(20000) : chance < 10 ? random.nextInt(100) : random.nextInt(10));
    }

    private String blank() {
        int chance = random.nextInt(6);
        return chance == 0 ? "  " : chance == 1 ? " " : "";
    }

    private String condition(int open) {
        StringBuilder text = new StringBuilder();
        int chance = random.nextInt(10);
        if (chance == 0) text.append("not ");
        if (chance == 1) text.append("not not ");
        if (chance < 4 && open < 4) text.append(blank() + "(" + condition(open + 1) + ")" + blank());
        else text.append(value() + blank() + "<=>".charAt(random.nextInt(3)) + blank() + value());
        int more = random.nextInt(8);
        if (more == 0) text.append(" and " + condition(open + 1));
        if (more == 1) text.append(" or " + condition(open + 1));
        return text.toString();
    }

    private void text() {
        String[] kinds = {"rider", "regular", "lady", "father", "clerk", "barrier"}, deeds = {"exit", "ride", "ride", "stay"};
        StringBuilder text = new StringBuilder();
        int rules = random.nextInt(10) == 0 ? 9 : 1 + random.nextInt(4);
        for (int i = 0; i < rules; i++) {
            text.append(blank() + kinds[random.nextInt(6)] + " ");
            if (rules < 9 && random.nextInt(5) != 0) text.append("if " + condition(0) + " ");
            text.append(deeds[random.nextInt(4)] + blank() + ";" + blank());
        }
        if (random.nextInt(4) == 0) spoil(text);
        if (x.many(5) > 0 && random.nextInt(3) != 0) due("rules()", x.rules(), model.rules());
        for (int from = 0; from < text.length(); from += 8) {
            int n = Math.min(8, text.length() - from);
            long eight = random.nextLong() << 32 << 31;
            for (int i = n - 1; i >= 0; i--) eight = eight << 8 | text.charAt(from + i);
            due("feed(" + eight + ", " + n + ")", x.feed(eight, n), model.feed(eight, n));
        }
        due("rules() of \"" + text + "\"", x.rules(), model.rules());
    }

    private void spoil(StringBuilder text) {
        int place = random.nextInt(text.length());
        String signs = " ;()<=>a0A\t\u00ff9z";
        char sign = signs.charAt(random.nextInt(signs.length()));
        int chance = random.nextInt(4);
        if (chance == 0) text.setLength(place);
        else if (chance == 1) text.deleteCharAt(place);
        else if (chance == 2) text.setCharAt(place, sign);
        else text.insert(place, sign);
    }

    /** A SHEET of ACTS. */
    private void fill() {
        int sheet = random.nextInt(4), n = random.nextInt(8);
        due("sheet(" + sheet + ", 0, " + n + ")", x.sheet(sheet, 0, n), model.sheet(sheet, 0, n));
        for (int i = 0; i < n; i++) {
            int act = random.nextInt(9) == 0 ? random.nextInt(600) - 300 : random.nextInt(x.many(0) + 1);
            due("write(" + sheet + ", " + i + ", " + act + ")", x.write(sheet, i, act), model.write(sheet, i, act));
        }
        if (random.nextBoolean()) {
            int from = some(0, 3), many = some(0, 8);
            due("wouldBe(" + sheet + ", " + from + ", " + many + ")", x.wouldBe(sheet, from, many), model.wouldBe(sheet, from, many));
        }
    }

    private void call(int which) {
        if (which < 11) callOfNet(which);
        else if (which < 29) callOfTrains(which);
        else if (which < 40) callOfLots(which);
        else callOfHost(which);
    }

    private static String args(Object... args) {
        StringBuilder text = new StringBuilder("(");
        for (Object arg : args) text.append(text.length() == 1 ? "" : ", ").append(arg);
        return text.append(")").toString();
    }

    private void callOfNet(int which) {
        int k = k(), a, b, c;
        switch (which) {
            case 0: a = some(1, 5); b = some(0, 99); c = some(0, 9); int d = some(0, 5);
                due("rider" + args(a, b, c, d), x.rider(a, b, c, d), model.rider(a, b, c, d)); break;
            case 1: a = some(0, 10);
                due("riderOf" + args(k, a), x.riderOf(k, a), model.riderOf(k, a)); break;
            case 2: case 3: a = some(1, 5); b = a == 1 ? some(0, 99) : a == 2 ? some(0, 9) : a == 4 ? some(0, 1) : some(0, 5);
                due("change" + args(k, a, b), x.change(k, a, b), model.change(k, a, b)); break;
            case 4: a = some(1, 5);
                due("remake" + args(k, a), x.remake(k, a), model.remake(k, a)); break;
            case 5: a = some(0, 15); b = some(0, 15);
                due("crowd" + args(a, b), x.crowd(a, b), model.crowd(a, b)); break;
            case 6: a = some(0, 5); b = some(0, 1); c = some(0, 9);
                due("home" + args(a, b, c), x.home(a, b, c), model.home(a, b, c)); break;
            case 7: a = some(0, 5); b = some(0, 1);
                due("homeOf" + args(a, b), x.homeOf(a, b), model.homeOf(a, b)); break;
            case 8: a = some(1, 16);
                due("ends" + args(a), x.ends(a), model.ends(a)); break;
            case 9:
                due("anew()", x.anew(), model.anew()); break;
            default: a = some(0, 6);
                due("state" + args(a), x.state(a), model.state(a)); break;
        }
    }

    private void callOfTrains(int which) {
        int k = k(), n = some(0, 4), a;
        switch (which) {
            case 11: case 12: case 13: due("train()", x.train(), model.train()); break;
            case 14: a = some(0, 16); due("on" + args(a), x.on(a), model.on(a)); break;
            case 15: due("when" + args(k), x.when(k), model.when(k)); break;
            case 16: due("wishFor" + args(k), x.wishFor(k), model.wishFor(k)); break;
            case 17: due("homeFor" + args(k), x.homeFor(k), model.homeFor(k)); break;
            case 18: due("lost" + args(k), x.lost(k), model.lost(k)); break;
            case 19: a = some(0, 5); due("reach" + args(k, a), x.reach(k, a), model.reach(k, a)); break;
            case 20: a = random.nextBoolean() ? -1 : k; due("carriages" + args(a), x.carriages(a), model.carriages(a)); break;
            case 21: a = some(0, 16); n = some(0, 1); due("press" + args(a, n), x.press(a, n), model.press(a, n)); break;
            case 22: due("best" + args(n), x.best(n), model.best(n)); break;
            case 23: a = some(0, 3); due("ith" + args(n, a), x.ith(n, a), model.ith(n, a)); break;
            case 24: due("ways" + args(n), x.ways(n), model.ways(n)); break;
            case 25: a = set(); due("ticket" + args(n, a), x.ticket(n, a), model.ticket(n, a)); break;
            case 26: a = set(); due("bars" + args(n, a), x.bars(n, a), model.bars(n, a)); break;
            case 27: due("game" + args(n), x.game(n), model.game(n)); break;
            default: due("play" + args(n), x.play(n), model.play(n)); break;
        }
    }

    private void callOfLots(int which) {
        int a, b, c, d, n;
        switch (which) {
            case 29: a = some(0, 15); b = some(0, 1); n = b == 0 ? 5 : 99; c = some(0, n); d = some(Math.max(0, Math.min(c, n)), n);
                due("report" + args(a, b, c, d), x.report(a, b, c, d), model.report(a, b, c, d)); break;
            case 30: if (random.nextInt(3) == 0) due("forget()", x.forget(), model.forget()); break;
            case 31: a = some(0, 3); due("lone" + args(a), x.lone(a), model.lone(a)); break;
            case 32: due("liar()", x.liar(), model.liar()); break;
            case 33: a = anyInt(); due("seed" + args(a), x.seed(a), model.seed(a)); break;
            case 34: due("lot()", x.lot(), model.lot()); break;
            case 35: a = some(1, 40); b = some(0, 99); due("times" + args(a, b), x.times(a, b), model.times(a, b)); break;
            case 36: a = some(0, 3); due("prove" + args(a), x.prove(a), model.prove(a)); break;
            case 37: a = some(0, 3); b = some(0, 2); due("row" + args(a, b), x.row(a, b), model.row(a, b)); break;
            case 38: a = some(0, 3); b = some(0, 2); c = random.nextInt(4) == 0 ? anyInt() : random.nextInt(6);
                if (random.nextInt(3) == 0) due("alterRow" + args(a, b, c), x.alterRow(a, b, c), model.alterRow(a, b, c)); break;
            default: due("judge()", x.judge(), model.judge()); break;
        }
    }

    private void callOfHost(int which) {
        int s = some(0, 3), a = some(0, 4), b = anyInt(), i = some(0, 9), n;
        switch (which) {
            case 40: case 41: a = some(-1, 4); n = some(0, 40);
                due("sheet" + args(s, a, n), x.sheet(s, a, n), model.sheet(s, a, n)); break;
            case 42: case 43: due("write" + args(s, i, b), x.write(s, i, b), model.write(s, i, b)); break;
            case 44: due("item" + args(s, a, i), x.item(s, a, i), model.item(s, a, i)); break;
            case 45: n = some(0, 20); due("goAll" + args(s, i, n), x.goAll(s, i, n), model.goAll(s, i, n)); break;
            case 46: n = some(0, 20); due("wouldBe" + args(s, i, n), x.wouldBe(s, i, n), model.wouldBe(s, i, n)); break;
            case 47: case 48: a = some(0, 2); n = some(0, 3);
                due("shelf" + args(s, a, n), x.shelf(s, a, n), model.shelf(s, a, n)); break;
            case 49: a = random.nextBoolean() ? some(0, 5) : some(10, 14);
                due("taken" + args(s, a), x.taken(s, a), model.taken(s, a)); break;
            case 50: case 51: a = some(0, 3); due("act" + args(s, a, b), x.act(s, a, b), model.act(s, a, b)); break;
            case 52: a = some(0, 12); due("trace" + args(a), x.trace(a), model.trace(a)); break;
            case 53: a = some(0, 6); due("many" + args(a), x.many(a), model.many(a)); break;
            case 54: due("keep()", x.keep(), model.keep()); break;
            case 55: if (random.nextInt(3) == 0) due("again()", x.again(), model.again()); break;
            case 56: n = some(1, 8); long eight = random.nextLong();
                due("feed" + args(eight, n), x.feed(eight, n), model.feed(eight, n)); break;
            default: if (random.nextInt(8) == 0) due("rules()", x.rules(), model.rules()); break;
        }
    }

    /** All that can be seen, in the end. */
    private void look() {
        for (int what = 0; what <= 6; what++) {
            due("many" + args(what), x.many(what), model.many(what));
            due("state" + args(what), x.state(what), model.state(what));
        }
        for (int k = 0; k < x.many(0); k++) {
            for (int what = 0; what <= 10; what++) due("riderOf" + args(k, what), x.riderOf(k, what), model.riderOf(k, what));
        }
        for (int f = 0; f < 6; f++) {
            for (int what = 0; what < 2; what++) due("homeOf" + args(f, what), x.homeOf(f, what), model.homeOf(f, what));
        }
        for (int train = 0; train < 16; train++) due("crowd" + args(train, 3), x.crowd(train, 3), model.crowd(train, 3));
        for (int sheet = 0; sheet < 4; sheet++) {
            for (int sort = 0; sort < 5; sort++) {
                for (int i = 0; i < 41; i++) due("item" + args(sheet, sort, i), x.item(sheet, sort, i), model.item(sheet, sort, i));
            }
        }
        due("seed(0)", x.seed(0), model.seed(0));
    }
}
