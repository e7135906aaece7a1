/** Counts the answers that are not as due; a test ends by end(). */
final class Check {
    private final String name;
    private int asked;
    private int wrong;

    Check(String name) {
        this.name = name;
    }

    void due(String call, long got, long want) {
        asked++;
        if (got != want) {
            wrong++;
            System.out.println(name + ": " + call + " answered " + got + ", due is " + want);
        }
    }

    /** Feeds a text (characters 0 to 255), with blanks behind it. */
    static void feed(BlownNext x, String text) {
        int[] ints = new int[5];
        for (int from = 0; from < text.length(); from += 20) {
            for (int k = 0; k < 5; k++) {
                ints[k] = 0;
                for (int b = 0; b < 4; b++) {
                    int at = from + 4 * k + b;
                    ints[k] = ints[k] << 8 | (at < text.length() ? text.charAt(at) & 255 : ' ');
                }
            }
            x.feed(ints[0], ints[1], ints[2], ints[3], ints[4]);
        }
    }

    /** Tells a street: what street() answers. */
    static int tell(BlownNext x, String text) {
        feed(x, text);
        return x.street(text.length());
    }

    static BlownNext streetOf(String text) {
        BlownNext x = new BlownNext();
        int lines = tell(x, text);
        if (lines < 0) {
            throw new IllegalStateException("the test's own street has a fault: " + text + " " + lines);
        }
        return x;
    }

    static void row(BlownNext x, int row, int sort, long... numbers) {
        x.numbers(row, sort, numbers.length);
        for (int i = 0; i < numbers.length; i++) {
            x.write(row, i, numbers[i]);
        }
    }

    void end() {
        System.out.println(name + ": " + asked + " answers, " + wrong + " wrong");
        if (wrong != 0) {
            System.exit(1);
        }
    }
}
