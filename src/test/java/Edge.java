import java.util.Arrays;
import java.util.function.Supplier;

/** Tries boundary cases on objects in a known state: what a call answers, and that it leaves all as it was. */
final class Edge {
    interface Call {
        long on(BlownNext x);
    }

    private static final long WIDE = 0x123456789abcdef0L;

    private final Check check;

    Edge(Check check) {
        this.check = check;
    }

    /**
     * The call answers so and changes nothing: the same object without the call answers everything alike, and so do
     * its images, its rows and the street on its tape.
     */
    void keeps(String sentence, Supplier<BlownNext> state, long answer, Call call) {
        BlownNext asked = state.get();
        BlownNext left = state.get();
        check.due(sentence, call.on(asked), answer);
        long[] are = all(asked);
        long[] due = all(left);
        for (int k = 0; k < due.length; k++) {
            check.due(sentence + ": changes nothing, answer " + k, are[k], due[k]);
        }
    }

    /** The call changes something: else it would say nothing that the like call, refused, keeps all. */
    void changes(String sentence, Supplier<BlownNext> state, long answer, Call call) {
        BlownNext asked = state.get();
        check.due(sentence, call.on(asked), answer);
        check.due(sentence + ": changes something", Arrays.equals(all(asked), all(state.get())) ? 0 : 1, 1);
    }

    // ---- states

    static BlownNext fresh() {
        return new BlownNext();
    }

    /** Two SMITHS at MINUTE 0: what they do is plain. */
    static BlownNext two() {
        return Check.streetOf("smith 9 heat 50;smith 8 heat 40;");
    }

    /**
     * Three SMITHS at MINUTE 3, of whom one was BURNT and one has a new PIECE; a FAULT was read; 20 bytes on THE TAPE;
     * ROWS 0 to 2 (3, 5 and 40 numbers), ROW 3 MISSING; IMAGE 0 made, IMAGE 1 not.
     */
    static BlownNext worked() {
        BlownNext x = Check.streetOf("smith 60 heat 95;smith 7 cool 2 heat 40 low 10 high 90 piece 4;"
            + "smith 12 cool 0 heat 30 piece 0;burnt 1;blows 0 0;");
        x.minute(0, 3);
        x.minute(1, 0);
        x.piece(1, 6);
        x.image(0);
        x.minute(4, 2);
        Check.tell(x, "smith 61;");
        Check.feed(x, "smith 5 heat 7;");
        // the HEATS that come behind a MINUTE of rest
        Check.row(x, 0, 2, 147, 32, 30);
        Check.row(x, 1, 0, 1, 2, 4, 1, 0);
        x.numbers(2, 3, 40);
        x.write(2, 39, 8);
        return x;
    }

    /** As worked(), at a MINUTE from 9804 on. */
    static BlownNext workedTill(int minute) {
        BlownNext x = worked();
        for (int k = 0; k < 49; k++) {
            x.live(200);
        }
        x.live(minute - x.count(1));
        return x;
    }

    static BlownNext last() {
        return workedTill(9999);
    }

    static BlownNext fullTape() {
        BlownNext x = two();
        for (int k = 0; k < 90; k += 2) {
            Check.feed(x, "burnt 012;burnt 0" + (k == 88 ? "07" : "11") + ";");
        }
        return x;
    }

    /** So many SMITHS, each of whom blows the next one's fire, and ROWS of as many numbers, one less and one more. */
    static BlownNext many(int smiths) {
        BlownNext x = Check.streetOf("smith 6 heat 50;".repeat(smiths));
        Check.row(x, 0, 1, new long[smiths]);
        Check.row(x, 1, 1, new long[Math.max(0, smiths - 1)]);
        Check.row(x, 2, 1, new long[smiths + 1]);
        return x;
    }

    // ---- all that can be asked

    private static final class Log {
        private final long[] answers = new long[512];
        private int size;

        void add(long answer) {
            answers[size] = answer;
            size++;
        }
    }

    private static void askStreet(BlownNext x, Log log) {
        for (int what = 0; what < 9; what++) {
            log.add(x.count(what));
        }
        for (int i = 0; i < x.count(0); i++) {
            for (int what = 0; what < 10; what++) {
                log.add(x.smith(i, what));
            }
        }
    }

    private static void askBriefly(BlownNext x, Log log) {
        for (int what = 0; what < 9; what++) {
            log.add(x.count(what));
        }
        for (int i = 0; i < 3; i++) {
            for (int what = 4; what < 9; what++) {
                log.add(x.smith(i, what));
            }
        }
    }

    private static void askRows(BlownNext x, Log log) {
        for (int row = 0; row < 4; row++) {
            for (int what = 0; what < 5; what++) {
                log.add(x.judge(row, what));
            }
            log.add(x.seen(row));
            log.add(x.even(row, 12));
            log.add(x.holds(row, 3, 0));
        }
    }

    private static void askPlaces(BlownNext x, Log log) {
        int[] places = {0, 1, 2, 3, 4, 5, 39, 40};
        for (int row = 0; row < 4; row++) {
            for (int i : places) {
                log.add(x.write(row, i, WIDE));
            }
        }
    }

    /** The street as it stands: counts (but for THE TAPE) and SMITHS. */
    static long[] street(BlownNext x) {
        Log log = new Log();
        askStreet(x, log);
        log.answers[6] = 0;
        return Arrays.copyOf(log.answers, log.size);
    }

    /** Everything, even what is told by changing it: the object is of no use afterwards. */
    static long[] all(BlownNext x) {
        Log log = new Log();
        askStreet(x, log);
        log.add(x.fault(0));
        log.add(x.fault(1));
        askRows(x, log);
        for (int i = 0; i < 2; i++) {
            log.add(x.restore(i));
            askBriefly(x, log);
        }
        log.add(x.street(x.count(6)));
        log.add(x.fault(0));
        log.add(x.fault(1));
        askBriefly(x, log);
        askPlaces(x, log);
        return Arrays.copyOf(log.answers, log.size);
    }
}
