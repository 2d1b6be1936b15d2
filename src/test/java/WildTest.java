import java.lang.reflect.InvocationTargetException;
import java.lang.reflect.Method;
import java.util.ArrayList;
import java.util.Arrays;
import java.util.List;

/**
 * Every call with every choice of wild numbers, on a new net, a busy one, one that is OVER and a full one:
 * none throws, and each answers as the Model does.
 */
final class WildTest {
    private static final int MIN = Integer.MIN_VALUE, MAX = Integer.MAX_VALUE, RENEWED_BY = 60;
    private static final int[] MANY = {MIN, MIN + 1, -1000, -129, -15, -14, -13, -12, -11, -9, -4, -3, -2, -1, 0, 1, 2, 3, 4, 5, 6, 7,
        8, 9, 10, 11, 12, 13, 14, 15, 16, 17, 20, 21, 39, 40, 41, 63, 64, 99, 100, 200, 255, 999, 1000, 65536, MAX - 1, MAX};
    private static final int[] SOME = {MIN, -15, -2, -1, 0, 1, 2, 3, 4, 5, 6, 9, 10, 14, 15, 16, 20, 21, 40, 41, 99, 100, MAX};
    private static final int[] FEW = {MIN, -1, 0, 1, 2, 4, 5, 6, 9, 15, 16, 99, 100, MAX};
    private static final long[] LONGS = {0, -1, Long.MIN_VALUE, Long.MAX_VALUE, 0x20792061646C2020L, 0x3B7469786520L};
    private static final String[] NETS = {"a new one", "a busy one", "one that is OVER", "a full one"};

    private static int asked;
    private static int wrong;

    private InnerCircle x;
    private Model model;

    public static void main(String[] args) throws ReflectiveOperationException {
        for (Method method : InnerCircle.class.getDeclaredMethods()) {
            for (int net = 0; net < NETS.length; net++) new WildTest().ask(method, net);
        }
        System.out.println("WildTest: " + asked + " asked, " + wrong + " not as due");
        if (wrong != 0) System.exit(1);
    }

    private void ask(Method method, int net) throws ReflectiveOperationException {
        if (java.lang.reflect.Modifier.isPrivate(method.getModifiers())) return;
        Class<?>[] types = method.getParameterTypes();
        Method twin = Model.class.getDeclaredMethod(method.getName(), types);
        int since = RENEWED_BY;
        for (Object[] choice : choices(types)) {
            if (since++ >= RENEWED_BY) {
                renew(net);
                since = 0;
            }
            String call = method.getName() + Arrays.toString(choice) + " of " + NETS[net];
            asked++;
            int want = (int) twin.invoke(model, choice), got;
            try {
                got = (int) method.invoke(x, choice);
            } catch (InvocationTargetException e) {
                due(call + " threw " + e.getCause(), false);
                continue;
            }
            due(call + " answered " + got + ", due is " + want, got == want);
            due("what is seen behind " + call, x.state(4) == model.state(4) && x.many(0) == model.many(0)
                    && x.state(0) == model.state(0) && x.state(2) == model.state(2) && x.many(6) == model.many(6));
        }
    }

    private static void due(String what, boolean is) {
        if (is || wrong > 50) return;
        wrong++;
        System.out.println(what);
    }

    private static List<Object[]> choices(Class<?>[] types) {
        List<Object[]> all = new ArrayList<>();
        all.add(new Object[0]);
        for (Class<?> type : types) {
            List<Object[]> longer = new ArrayList<>();
            for (Object[] one : all) {
                for (Object last : valuesOf(type, types.length)) {
                    Object[] more = Arrays.copyOf(one, one.length + 1);
                    more[one.length] = last;
                    longer.add(more);
                }
            }
            all = longer;
        }
        return all;
    }

    private static List<Object> valuesOf(Class<?> type, int parameters) {
        List<Object> values = new ArrayList<>();
        if (type == long.class) for (long one : LONGS) values.add(one);
        else for (int one : parameters < 3 ? MANY : parameters == 3 ? SOME : FEW) values.add(one);
        return values;
    }

    private void rider(int kind, int depth, int wish, int home) {
        x.rider(kind, depth, wish, home);
        model.rider(kind, depth, wish, home);
    }

    private void text(String text) {
        for (int i = 0; i < text.length(); i++) {
            x.feed(text.charAt(i), 1);
            model.feed(text.charAt(i), 1);
        }
        x.rules();
        model.rules();
    }

    private void renew(int net) {
        x = new InnerCircle();
        model = new Model();
        if (net == 0) return;
        int riders = net == 3 ? 6 : net + 1;
        for (int k = 0; k < riders; k++) rider(k % 5 + 1, 17 * k, 9 - k, k);
        text(net == 3 ? "clerk stay;clerk stay;clerk stay;clerk stay;clerk stay;clerk stay;clerk stay;lady if depth>9 ride;"
                : "father if train>2 ride;");
        for (int f = 0; f < 6; f++) {
            x.home(f, 1, f);
            model.home(f, 1, f);
        }
        int end = net == 1 ? 5 : net == 2 ? 3 : 16;
        x.ends(end);
        model.ends(end);
        for (int i = 0; i < (net == 3 ? 2 : net == 2 ? 3 : 1); i++) {
            x.train();
            model.train();
        }
        for (int i = 0; i < (net == 3 ? 6 : net); i++) {
            x.report(i, 1, 0, 90);
            model.report(i, 1, 0, 90);
        }
        x.prove(net + 1);
        model.prove(net + 1);
        host(net);
    }

    private void host(int net) {
        for (int sheet = 0; sheet < 3; sheet++) {
            int sort = sheet == 0 ? 0 : sheet + net - 1, n = net == 3 ? 40 : 6;
            x.sheet(sheet, sort, n);
            model.sheet(sheet, sort, n);
            for (int i = 0; i < 6; i++) {
                x.write(sheet, i, i == 3 ? 77 : i);
                model.write(sheet, i, i == 3 ? 77 : i);
            }
        }
        x.shelf(0, 0, net);
        model.shelf(0, 0, net);
        x.shelf(1, 1, 1);
        model.shelf(1, 1, 1);
        x.shelf(2, 0, 0);
        model.shelf(2, 0, 0);
        x.act(0, 3, 9);
        model.act(0, 3, 9);
        if (net == 1) return;
        x.keep();
        model.keep();
        for (int i = 0; i < (net == 3 ? 25 : 3); i++) {
            x.feed(0x2020202020202020L, 8);
            model.feed(0x2020202020202020L, 8);
        }
    }
}
