/** Counts the answers that are not as due, and tells each with its promise. */
final class Due {
    private final String name;
    private int promise;
    private int asked;
    private int wrong;

    Due(String name) {
        this.name = name;
    }

    /** What follows is asked for this promise of ../shared/DOC.md. */
    void promise(int number) {
        promise = number;
    }

    void is(String call, long got, long want) {
        asked++;
        if (got == want) return;
        wrong++;
        System.out.println("promise " + promise + ": " + call + " answered " + got + ", due is " + want);
    }

    void end() {
        System.out.println(name + ": " + asked + " asked, " + wrong + " not as due");
        if (wrong != 0) System.exit(1);
    }

    /** Feeds a whole text, eight bytes a call. */
    static void feed(InnerCircle x, String text) {
        for (int from = 0; from < text.length(); from += 8) {
            int n = Math.min(8, text.length() - from);
            long eight = 0;
            for (int i = 0; i < n; i++) eight |= (long) (text.charAt(from + i) & 255) << 8 * i;
            x.feed(eight, n);
        }
    }

    /** What rules() answers to a text. */
    static int rules(InnerCircle x, String text) {
        feed(x, text);
        return x.rules();
    }
}
