/** Counts the answers that are not as due, and tells each with its promise. */
final class Due {
    private final String name;
    private int promise;
    private int asked;
    private int wrong;

    Due(String name) {
        this.name = name;
    }

    /** What follows is asked for this promise of ../shared/DOC.md. */
    void promise(int number) {
        promise = number;
    }

    void is(String call, long got, long want) {
        asked++;
        if (got == want) return;
        wrong++;
        System.out.println("promise " + promise + ": " + call + " answered " + got + ", due is " + want);
    }

    void end() {
        System.out.println(name + ": " + asked + " asked, " + wrong + " not as due");
        if (wrong != 0) System.exit(1);
    }

    /** Feeds a whole text, eight bytes a call. */
    static void feed(InnerCircle x, String text) {
        for (int from = 0; from < text.length(); from += 8) {
            int n = Math.min(8, text.length() - from);
            long eight = 0;
            for (int i = 0; i < n; i++) eight |= (long) (text.charAt(from + i) & 255) << 8 * i;
            x.feed(eight, n);
        }
    }

    /** What rules() answers to a text. */
    static int rules(InnerCircle x, String text) {
        feed(x, text);
        return x.rules();
    }

    /** A net without RUSH and LAMPS. */
    static InnerCircle still(int end) {
        InnerCircle x = new InnerCircle();
        x.ends(end);
        for (int train = 0; train < 16; train++) x.crowd(train, 0);
        return x;
    }

    /** Two ladies AT HOME without RUSH: 0 PAYS 9 + 1, 1 PAYS 9 + 4. */
    static InnerCircle ladies() {
        InnerCircle x = still(16);
        x.rider(2, 0, 1, 0);
        x.rider(2, 0, 4, 1);
        return x;
    }

    /** THE TRACE as a text. */
    static String bodies(InnerCircle x) {
        StringBuilder text = new StringBuilder();
        for (int i = 0; i < x.many(6); i++) text.append(i == 0 ? "" : " ").append(x.trace(i));
        return text.toString();
    }
}
