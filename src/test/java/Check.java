/** Counts answers that are not as due, and puts texts on a tape. */
final class Check {
    private final String name;
    private int asked;
    private int wrong;

    Check(String name) {
        this.name = name;
    }

    void due(String call, long got, long want) {
        asked++;
        if (got != want) {
            wrong++;
            System.out.println(name + ": " + call + " answered " + got + ", due is " + want);
        }
    }

    void due(String call, boolean got, boolean want) {
        due(call, got ? 1 : 0, want ? 1 : 0);
    }

    /** Prints the count and leaves with exit code 1 if an answer was wrong. */
    void finish() {
        System.out.println(name + ": " + asked + " answers, " + wrong + " wrong");
        if (wrong != 0) {
            System.exit(1);
        }
    }

    /** Puts a text on an empty tape; characters are bytes. */
    static void tell(TailorRegiment x, String text) {
        for (int at = 0; at < text.length(); at += 20) {
            int[] five = new int[5];
            for (int i = 0; i < 20; i++) {
                int c = at + i < text.length() ? text.charAt(at + i) & 255 : 0;
                five[i / 4] = five[i / 4] << 8 | c;
            }
            x.feed(five[0], five[1], five[2], five[3], five[4]);
        }
        x.end(text.length());
    }

    /** A new object with a regiment that has no fault. */
    static TailorRegiment regiment(String text) {
        TailorRegiment x = new TailorRegiment();
        tell(x, text);
        if (x.regiment() < 0) {
            throw new IllegalStateException("fault " + x.fault(0) + " at " + x.fault(1) + ": " + text);
        }
        return x;
    }

    static String times(String part, int n) {
        return part.repeat(n);
    }
}
