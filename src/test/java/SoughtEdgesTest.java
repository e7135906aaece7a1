import java.util.Arrays;
import java.util.function.IntFunction;
import java.util.function.Supplier;

/** Boundary cases of promises 27 to 37: how far is sought, how many smiths are too many, codes and their order. */
public final class SoughtEdgesTest {
    private static final Check CHECK = new Check("SoughtEdgesTest");
    private static final Edge EDGE = new Edge(CHECK);
    private static final int[] NO_ROWS = {-1, 4, Integer.MIN_VALUE, Integer.MAX_VALUE};
    /** No SMITHS of Edge.worked(), which has three. */
    private static final int[] NOBODY = {-1, 3, 10, Integer.MIN_VALUE, Integer.MAX_VALUE};
    private static final int[] NO_BLASTS = {-1, 61, Integer.MIN_VALUE, Integer.MAX_VALUE};
    private static final int[] NO_LENGTHS = MinutesEdgesTest.wrongLengths();

    public static void main(String[] args) {
        soonestIsNow();
        soonestAtBounds();
        soonestsSmiths();
        spentBehindWhichMinute();
        spentOrNone();
        soughtAgain();
        soonestNone();
        seenNumbers();
        seenCodes();
        seenAtBounds();
        surelyAllOrNone();
        ropesSmiths();
        ropesWhat();
        ropesCodesInOrder();
        ropesFirst();
        lazyLengths();
        lazyCodes();
        strangersBlast();
        strangersLengths();
        strangersCodes();
        bestPlaceNone();
        bestPlaceFirst();
        bestPlacesCodes();
        swappedPairs();
        swappedCodes();
        whenBounds();
        whenCodes();
        warmBounds();
        warmNever();
        warmCodes();
        coldBounds();
        coldCodes();
        lastMinute();
        CHECK.end();
    }

    private static void soonest(String street, int due) {
        CHECK.due("27 soonest of " + street, Check.streetOf(street).soonest(), due);
    }

    /** soonest: "(0: all are DONE)". */
    private static void soonestIsNow() {
        soonest("smith 1 piece 0;", 0);
        soonest("smith 1 piece 0;".repeat(3), 0);
        soonest("smith 1 piece 0;smith 1 heat 50 piece 1;", 1);
        EDGE.keeps("27 no SMITHS", Edge::fresh, 0, BlownNext::soonest);
        BlownNext x = Check.streetOf("smith 1 heat 50 piece 1;");
        CHECK.due("27 one stroke", x.soonest(), 1);
        x.minute(0, 1);
        CHECK.due("27 DONE", x.soonest(), 0);
        x.piece(0, 1);
        CHECK.due("27 a new one", x.soonest(), 1);
    }

    /** What can be struck, LOW to HIGH, is struck at once; what can't takes a MINUTE more. */
    private static void soonestAtBounds() {
        soonest("smith 10 heat 20 piece 1;", 1);
        soonest("smith 10 heat 19 piece 1;", 2);
        soonest("smith 10 heat 100 piece 1;", 1);
        soonest("smith 10 heat 101 piece 1;", 2);
        soonest("smith 0 cool 0 heat 50 piece 20;", 20);
        soonest("smith 0 cool 0 heat 50 piece 20;".repeat(3), -4);
        soonest("smith 0 cool 0 heat 50 piece 13;".repeat(3), 13);
        // up to the last MINUTE before the fire goes out
        soonest("smith 0 cool 1 heat 39 piece 20;", 20);
        soonest("smith 0 cool 1 heat 38 piece 20;", -1);
        // 200 MINUTES of cooling to LOW 0, one stroke
        soonest("smith 0 cool 1 heat 200 low 0 high 0 piece 1;", 201);
    }

    /** SOONEST: "at most 3 SMITHS"; soonest: "-4: .. more than 3 SMITHS". */
    private static void soonestsSmiths() {
        for (int n = 1; n <= 10; n++) {
            soonest("smith 0 heat 50 piece 1;".repeat(n), n <= 3 ? 1 : -4);
        }
        soonest("smith 0 piece 0;".repeat(4), -4);
        EDGE.keeps("27 four", () -> Edge.many(4), -4, BlownNext::soonest);
        EDGE.keeps("27 ten", () -> Edge.many(10), -4, BlownNext::soonest);
        EDGE.keeps("27 two", Edge::two, 3, BlownNext::soonest);
    }

    /** "behind each MINUTE in which it isn't so: SPENT (-4), if more than 3,000 STATES were met by then". */
    private static void spentBehindWhichMinute() {
        // just 3,000 STATES were met ahead of the MINUTE in which all are DONE, and more than 3,000 in it
        soonest("smith 54 cool 3 heat 144 low 55 high 199 piece 2;smith 0 cool 1 heat 122 low 0 high 79 piece 1;burnt 13;"
            + "blows 0 0;blows 1 0;", 44);
        soonest("smith 4 heat 87 low 39 high 190 piece 4;smith 0 cool 1 heat 99 low 0 high 43 piece 1;burnt 13;"
            + "blows 0 0;blows 1 0;", 57);
        soonest("smith 18 cool 0 heat 134 low 57 high 189 piece 2;smith 0 cool 1 heat 91 low 0 high 77 piece 1;"
            + "smith 58 cool 1 heat 64 low 43 high 80 piece 2;burnt 8;blows 0 0;blows 1 0;blows 2 2;", 15);
        soonest("smith 42 cool 4 heat 194 low 54 high 109 piece 0;smith 0 cool 1 heat 21 low 0 high 15 piece 1;"
            + "smith 38 cool 11 heat 199 low 24 high 89 piece 3;burnt 15;blows 0 2;blows 1 2;blows 2 0;", 13);
        // far more than 3,000 STATES in one MINUTE
        soonest("smith 7 piece 20;smith 11 cool 3 piece 20;smith 13 cool 2 piece 20;", -4);
        // 3,001 STATES were met ahead of it
        soonest("smith 30 cool 10 heat 86 low 27 high 88 piece 3;smith 0 cool 1 heat 107 low 0 high 60 piece 1;burnt 19;"
            + "blows 0 0;blows 1 0;", -4);
        soonest("smith 54 cool 3 heat 175 low 59 high 146 piece 1;smith 0 cool 1 heat 125 low 0 high 71 piece 1;burnt 10;"
            + "blows 0 0;blows 1 0;", -4);
        soonest("smith 17 cool 1 heat 5 low 9 high 31 piece 1;smith 0 cool 1 heat 70 low 0 high 59 piece 1;"
            + "smith 32 cool 10 heat 99 low 44 high 58 piece 1;burnt 7;blows 0 0;blows 1 0;blows 2 2;", -4);
        soonest("smith 6 cool 10 heat 96 low 54 high 89 piece 0;smith 0 cool 1 heat 58 low 0 high 39 piece 1;"
            + "smith 24 cool 2 heat 65 low 20 high 84 piece 2;burnt 12;blows 0 0;blows 1 0;blows 2 0;", -4);
    }

    /** A search knows nothing of those before it. */
    private static void soughtAgain() {
        BlownNext x = Check.streetOf("smith 7 heat 50 piece 20;smith 11 cool 3 heat 50 piece 20;smith 13 cool 2 heat 50 piece 20;");
        for (int k = 0; k < 2; k++) {
            CHECK.due("27 SPENT", x.soonest(), -4);
            x.image(0);
            x.piece(0, 2);
            x.piece(1, 2);
            x.piece(2, 2);
            CHECK.due("27 two strokes each", x.soonest(), 2);
            CHECK.due("27 the same again", x.soonest(), 2);
            x.piece(1, 0);
            x.piece(2, 0);
            x.minute(0, 1);
            CHECK.due("27 one stroke", x.soonest(), 1);
            Check.tell(x, "smith 5 heat 19 piece 1;");
            CHECK.due("27 never", x.soonest(), -1);
            CHECK.due("27 never", x.soonest(), -1);
            x.restore(0);
        }
    }

    /** "NONE, if there are no new ones": with 3,000 STATES in all, or with 3,001. */
    private static void spentOrNone() {
        String never = "smith 0 cool 0 piece 1;blows 0 0;blows 1 1;";
        soonest("smith 34 cool 7 heat 33 low 184 high 197 piece 14;burnt 5;" + never, -1);
        soonest("smith 59 cool 6 heat 162 low 57 high 115 piece 18;burnt 7;" + never, -1);
        soonest("smith 46 cool 5 heat 140 low 108 high 198 piece 14;burnt 7;" + never, -4);
        soonest("smith 57 cool 25 heat 13 low 155 high 168 piece 16;burnt 13;" + never, -4);
    }

    /** soonest: "NONE: never". */
    private static void soonestNone() {
        soonest("smith 5 heat 19 piece 1;", -1);
        soonest("smith 6 heat 19 piece 1;", 2);
        soonest("smith 0 cool 0 heat 101 piece 1;", -1);
        soonest("smith 0 cool 1 heat 101 piece 1;", 2);
        soonest("smith 0 heat 50 piece 0;smith 0 piece 1;", -1);
    }

    /** "a ROW of as many numbers as SMITHS"; seen, sure: "-7". */
    private static void seenNumbers() {
        for (int n = 0; n <= 10; n++) {
            Supplier<BlownNext> street = streetOf(n);
            int few = n == 0 ? 1 : -7;
            EDGE.keeps("28 as many as " + n, street, n == 0 ? 1 : 0, x -> x.seen(0));
            EDGE.keeps("28 one less than " + n, street, few, x -> x.seen(1));
            EDGE.keeps("28 one more than " + n, street, -7, x -> x.seen(2));
            EDGE.keeps("29 as many as " + n, street, 0, x -> x.sure(0, true));
            EDGE.keeps("29 one less than " + n, street, n == 0 ? 0 : -7, x -> x.sure(1, true));
            EDGE.keeps("29 one more than " + n, street, -7, x -> x.sure(2, false));
        }
        EDGE.keeps("28 five for three", Edge::worked, -7, x -> x.seen(1));
        EDGE.keeps("29 five for three", Edge::worked, -7, x -> x.sure(1, false));
    }

    private static Supplier<BlownNext> streetOf(int smiths) {
        return () -> Edge.many(smiths);
    }

    /** seen, sure: "-2: the ROW; -6; -7". */
    private static void seenCodes() {
        for (int row : NO_ROWS) {
            EDGE.keeps("28 seen(" + row + ")", Edge::worked, -2, x -> x.seen(row));
            EDGE.keeps("29 sure(" + row + ", true)", Edge::worked, -2, x -> x.sure(row, true));
            EDGE.keeps("29 sure(" + row + ", false)", Edge::worked, -2, x -> x.sure(row, false));
        }
        EDGE.keeps("28 missing", Edge::worked, -6, x -> x.seen(3));
        EDGE.keeps("29 missing", Edge::worked, -6, x -> x.sure(3, true));
        EDGE.keeps("29 missing", Edge::worked, -6, x -> x.sure(3, false));
        EDGE.keeps("28 missing, no SMITHS", Edge::fresh, -6, x -> x.seen(0));
        EDGE.keeps("28 seen(0)", Edge::worked, 1, x -> x.seen(0));
    }

    private static void seen(String street, int sets, int all, int none, long... heats) {
        BlownNext x = Check.streetOf(street);
        Check.row(x, 0, 3, heats);
        CHECK.due("28 SEEN " + heats[0] + " of " + street, x.seen(0), sets);
        CHECK.due("29 who pulls " + heats[0] + " of " + street, x.sure(0, true), all);
        CHECK.due("29 who doesn't " + heats[0] + " of " + street, x.sure(0, false), none);
    }

    /** HEATS behind the next MINUTE: 0 and 200 come by more sets than one; nothing else comes. */
    private static void seenAtBounds() {
        String hot = "smith 15 heat 190;";
        seen(hot, 0, 0, 0, 201);
        seen(hot, 1, 1, 0, 200);
        seen(hot, 0, 0, 0, 199);
        seen(hot, 1, 0, 1, 185);
        seen(hot, 0, 0, 0, 190);
        seen("smith 5 heat 200;smith 60;blows 0 0;blows 1 0;", 3, 0, 0, 200, 0);
        String cold = "smith 5 heat 0;";
        seen(cold, 2, 0, 0, 0);
        seen(cold, 0, 0, 0, -5);
        seen(cold, 0, 0, 0, 1);
        seen("smith 6 heat 0;", 1, 1, 0, 1);
        seen("smith 6 heat 0;", 1, 0, 1, 0);
        seen("smith 6 heat 0;", 0, 0, 0, 1L << 32);
        seen("smith 6 heat 0;", 0, 0, 0, (1L << 32) + 1);
        seen("smith 6 heat 0;", 0, 0, 0, Long.MIN_VALUE);
    }

    /** sure: "in all sets .. or in none of them, as bits (0, if there are none)". */
    private static void surelyAllOrNone() {
        long[] warm = new long[10];
        long[] cool = new long[10];
        long[] never = new long[10];
        Arrays.fill(warm, 51);
        Arrays.fill(cool, 45);
        Arrays.fill(never, 46);
        seen("smith 6 heat 50;".repeat(10), 1, 1023, 0, warm);
        seen("smith 6 heat 50;".repeat(10), 1, 0, 1023, cool);
        seen("smith 6 heat 50;".repeat(10), 0, 0, 0, never);
        seen("smith 0 heat 50;".repeat(10), 1024, 0, 0, cool);
        // SMITH 0 blows fire 1, the tenth fire 0
        cool[1] = 51;
        seen("smith 6 heat 50;".repeat(10), 1, 1, 1022, cool);
        cool[1] = 45;
        cool[0] = 51;
        seen("smith 6 heat 50;".repeat(10), 1, 512, 511, cool);
    }

    /** ROPES ANEW: "at most 7 SMITHS"; ropes: "-4: more than 7 SMITHS; -5: no SMITHS". */
    private static void ropesSmiths() {
        for (int n = 1; n <= 10; n++) {
            Supplier<BlownNext> street = streetOf(n);
            // each BLAST is 6, each COOL 5
            EDGE.keeps("30 the sum of " + n, street, n <= 7 ? n : -4, x -> x.ropes(0));
            for (int i = 0; i < n; i++) {
                int asked = i;
                EDGE.keeps("30 whom " + i + " of " + n, street, n <= 7 ? (i + 1) % n : -4, x -> x.ropes(10 + asked));
            }
        }
        EDGE.keeps("30 no SMITHS", Edge::fresh, -5, x -> x.ropes(0));
    }

    /** ropes: "what 0 .., 10 + i"; "-2: what". */
    private static void ropesWhat() {
        for (int what : new int[] {-1, 1, 9, 13, 20, Integer.MIN_VALUE, Integer.MIN_VALUE + 9, Integer.MAX_VALUE}) {
            EDGE.keeps("30 ropes(" + what + ")", Edge::worked, -2, x -> x.ropes(what));
        }
        EDGE.keeps("30 ropes(10)", Edge::worked, 1, x -> x.ropes(10));
        EDGE.keeps("30 ropes(12)", Edge::worked, 0, x -> x.ropes(12));
    }

    /** ropes tells -2, -4, -5. */
    private static void ropesCodesInOrder() {
        for (int what : new int[] {-1, 1, 9, 18}) {
            EDGE.keeps("30 -2 ahead of -4: " + what, () -> Edge.many(8), -2, x -> x.ropes(what));
            EDGE.keeps("30 -2 ahead of -5: " + what, Edge::fresh, -2, x -> x.ropes(what));
        }
        EDGE.keeps("30 -2 ahead of -5: SMITH 0 of none", Edge::fresh, -2, x -> x.ropes(10));
        EDGE.keeps("30 eight", () -> Edge.many(8), -4, x -> x.ropes(17));
    }

    private static void roped(String street, int sum, int... to) {
        BlownNext x = Check.streetOf(street);
        CHECK.due("30 sum of " + street, x.ropes(0), sum);
        for (int i = 0; i < to.length; i++) {
            CHECK.due("30 " + i + " of " + street, x.ropes(10 + i), to[i]);
        }
    }

    /** "each blows another one .. (one SMITH: himself)"; "of like ones the first". */
    private static void ropesFirst() {
        roped("smith 60 cool 0;", 60, 0);
        roped("smith 5;", 0, 0);
        roped("smith 0 cool 0;smith 30 cool 30;", 60, 1, 0);
        roped("smith 5;".repeat(3), 0, 1, 2, 0);
        // the other way round is better by 1
        roped("smith 5 cool 5;smith 5 cool 6;smith 5 cool 5;", 1, 1, 2, 0);
        roped("smith 6 cool 5;smith 5 cool 5;smith 5 cool 6;", 0, 2, 0, 1);
        roped("smith 60 cool 30;smith 60 cool 30;smith 60 cool 30;smith 60 cool 30;smith 60 cool 30;smith 60 cool 30;"
            + "smith 60 cool 0;", 240, 1, 2, 3, 4, 5, 6, 0);
    }

    /** Asks at the bounds of "MINUTE would be above 9999". */
    private static void late(String call, IntFunction<Edge.Call> of) {
        int[] minutes = {9998, 9998, 9999, 9804, 9804};
        int[] lengths = {1, 2, 1, 195, 196};
        for (int k = 0; k < 5; k++) {
            long got = of.apply(lengths[k]).on(Edge.workedTill(minutes[k]));
            int refused = minutes[k] + lengths[k] > 9999 ? 1 : 0;
            CHECK.due(call + " at " + minutes[k] + " for " + lengths[k] + " answered " + got, got == -5 ? 1 : 0, refused);
        }
    }

    /** LAZY: "in n MINUTES (1 to 200)"; lazy: "-3: n; -5: MINUTE would be above 9999". */
    private static void lazyLengths() {
        for (int n : NO_LENGTHS) {
            EDGE.keeps("31 lazy(1, " + n + ")", Edge::worked, -3, x -> x.lazy(1, n));
            EDGE.keeps("31 -3 ahead of -5: lazy(1, " + n + ")", Edge::last, -3, x -> x.lazy(1, n));
        }
        late("31 lazy", n -> x -> x.lazy(1, n));
        EDGE.keeps("31 lazy(1, 1) at 9999", Edge::last, -5, x -> x.lazy(1, 1));
        // SMITH 1 lacks five strokes
        EDGE.keeps("31 lazy(1, 1)", Edge::worked, 0, x -> x.lazy(1, 1));
        EDGE.keeps("31 lazy(1, 4)", Edge::worked, 0, x -> x.lazy(1, 4));
        EDGE.keeps("31 lazy(1, 5)", Edge::worked, 1, x -> x.lazy(1, 5));
        EDGE.keeps("31 lazy(1, 200)", Edge::worked, 1, x -> x.lazy(1, 200));
        EDGE.keeps("31 lazy(0, 200)", Edge::worked, 1, x -> x.lazy(0, 200));
        EDGE.keeps("31 lazy(2, 200)", Edge::worked, 0, x -> x.lazy(2, 200));
    }

    /** lazy: "-2", ahead of -3 and -5. */
    private static void lazyCodes() {
        for (int i : NOBODY) {
            EDGE.keeps("31 lazy(" + i + ", 1)", Edge::worked, -2, x -> x.lazy(i, 1));
            EDGE.keeps("31 -2 ahead of -3: lazy(" + i + ", 0)", Edge::worked, -2, x -> x.lazy(i, 0));
            EDGE.keeps("31 -2 ahead of -5: lazy(" + i + ", 1)", Edge::last, -2, x -> x.lazy(i, 1));
            EDGE.keeps("31 -2 ahead of both: lazy(" + i + ", 201)", Edge::last, -2, x -> x.lazy(i, 201));
        }
        EDGE.keeps("31 no SMITHS", Edge::fresh, -2, x -> x.lazy(0, 1));
    }

    /** stranger: "-3: BLAST (0 to 60)"; he pulls by CUSTOM as others do. */
    private static void strangersBlast() {
        for (int blast : NO_BLASTS) {
            EDGE.keeps("32 stranger(1, " + blast + ", 1)", Edge::worked, -3, x -> x.stranger(1, blast, 1));
            EDGE.keeps("32 -3 ahead of -5: " + blast, Edge::last, -3, x -> x.stranger(1, blast, 1));
            EDGE.keeps("33 bestPlace(" + blast + ", 1)", Edge::worked, -3, x -> x.bestPlace(blast, 1));
            EDGE.keeps("33 -3 ahead of -5: " + blast, Edge::last, -3, x -> x.bestPlace(blast, 1));
        }
        EDGE.keeps("32 BLAST 0", Edge::worked, 0, x -> x.stranger(1, 0, 1));
        EDGE.keeps("32 BLAST 60", Edge::worked, 0, x -> x.stranger(1, 60, 1));
        // LOW and HIGH are 99: 59 brings 40 to it, 58 does not, nor once more, and 60 would bring it above
        for (int blast = 58; blast <= 60; blast++) {
            BlownNext x = Check.streetOf("smith 0 cool 0 heat 40 low 99 high 99 piece 1;");
            CHECK.due("32 by " + blast, x.stranger(0, blast, 200), blast == 59 ? 1 : 0);
        }
        BlownNext x = Check.streetOf("smith 0 cool 0 heat 40 low 90 high 99 piece 1;");
        CHECK.due("32 to HIGH", x.stranger(0, 59, 2), 1);
        CHECK.due("32 above HIGH", x.stranger(0, 60, 2), 0);
        CHECK.due("32 to LOW", x.stranger(0, 50, 2), 1);
        CHECK.due("32 below LOW", x.stranger(0, 49, 2), 0);
    }

    /** stranger, bestPlace: "n (1 to 200)"; "-5". */
    private static void strangersLengths() {
        for (int n : NO_LENGTHS) {
            EDGE.keeps("32 stranger(1, 9, " + n + ")", Edge::worked, -3, x -> x.stranger(1, 9, n));
            EDGE.keeps("32 -3 ahead of -5: " + n, Edge::last, -3, x -> x.stranger(1, 9, n));
            EDGE.keeps("33 bestPlace(9, " + n + ")", Edge::worked, -3, x -> x.bestPlace(9, n));
            EDGE.keeps("33 -3 ahead of -5: " + n, Edge::last, -3, x -> x.bestPlace(9, n));
        }
        late("32 stranger", n -> x -> x.stranger(1, 9, n));
        late("33 bestPlace", n -> x -> x.bestPlace(9, n));
        EDGE.keeps("32 at 9999", Edge::last, -5, x -> x.stranger(1, 9, 1));
        EDGE.keeps("33 at 9999", Edge::last, -5, x -> x.bestPlace(9, 1));
        BlownNext x = Check.streetOf("smith 0 cool 0 low 200 high 200 piece 1;");
        // up by 1 in each MINUTE, and a stroke behind 200 of them would be too late
        CHECK.due("32 stranger(0, 1, 200)", x.stranger(0, 1, 200), 0);
        x = Check.streetOf("smith 0 cool 0 low 199 high 200 piece 1;");
        CHECK.due("32 stranger(0, 1, 199)", x.stranger(0, 1, 199), 0);
        CHECK.due("32 stranger(0, 1, 200)", x.stranger(0, 1, 200), 1);
    }

    /** stranger: "-2", ahead of -3 and -5. */
    private static void strangersCodes() {
        for (int i : NOBODY) {
            EDGE.keeps("32 stranger(" + i + ", 9, 1)", Edge::worked, -2, x -> x.stranger(i, 9, 1));
            EDGE.keeps("32 -2 ahead of -3 (BLAST)", Edge::worked, -2, x -> x.stranger(i, 61, 1));
            EDGE.keeps("32 -2 ahead of -3 (n)", Edge::worked, -2, x -> x.stranger(i, 9, 201));
            EDGE.keeps("32 -2 ahead of -5", Edge::last, -2, x -> x.stranger(i, 9, 1));
        }
        EDGE.keeps("32 no SMITHS", Edge::fresh, -2, x -> x.stranger(0, 9, 1));
    }

    /** bestPlace: "NONE: no SMITHS", ahead of -3 and -5. */
    private static void bestPlaceNone() {
        for (int blast : new int[] {0, 60, -1, 61}) {
            for (int n : new int[] {1, 200, 0, 201}) {
                EDGE.keeps("33 bestPlace(" + blast + ", " + n + ")", Edge::fresh, -1, x -> x.bestPlace(blast, n));
            }
        }
        BlownNext x = Edge.fresh();
        for (int k = 0; k < 49; k++) {
            x.live(200);
        }
        x.live(199);
        CHECK.due("43 MINUTE", x.count(1), 9999);
        CHECK.due("33 NONE ahead of -5", x.bestPlace(9, 1), -1);
        CHECK.due("33 NONE ahead of -3", x.bestPlace(61, 0), -1);
    }

    /** BEST PLACE: "beside whom most, the first". */
    private static void bestPlaceFirst() {
        CHECK.due("33 one", Check.streetOf("smith 0;").bestPlace(60, 200), 0);
        CHECK.due("33 all alike", Edge.many(10).bestPlace(9, 9), 0);
        // fire 0 alone lacks warmth, and the tenth blows it
        BlownNext x = Check.streetOf("smith 0 piece 1;" + "smith 0 heat 50 piece 1;".repeat(9));
        CHECK.due("33 the tenth", x.bestPlace(30, 9), 9);
        CHECK.due("32 beside him", x.stranger(9, 30, 9), 1);
        CHECK.due("32 beside another", x.stranger(8, 30, 9), 0);
        x.rope(4, 0);
        CHECK.due("33 the first of two", x.bestPlace(30, 9), 4);
        // wherever he comes he does harm: least harm, and the first of these
        x = Check.streetOf("smith 20 cool 0 high 70 piece 2;smith 20 cool 0 high 70 piece 2;blows 0 0;blows 1 1;");
        CHECK.due("32 harm", x.stranger(0, 60, 9), -1);
        CHECK.due("33 harm on both sides", x.bestPlace(60, 9), 0);
        x.piece(0, 0);
        CHECK.due("33 no harm beside 0", x.bestPlace(60, 9), 0);
        x.piece(0, 2);
        x.piece(1, 0);
        CHECK.due("33 no harm beside 1", x.bestPlace(60, 9), 1);
    }

    private static void bestPlacesCodes() {
        EDGE.keeps("33 bestPlace(0, 1)", Edge::worked, 0, x -> x.bestPlace(0, 1));
        EDGE.keeps("33 bestPlace(60, 200)", Edge::worked, 0, x -> x.bestPlace(60, 200));
    }

    private static void swapped(String street, int n, int more, int pair) {
        BlownNext x = Check.streetOf(street);
        CHECK.due("34 how many more: " + street, x.swapped(n, 0), more);
        CHECK.due("34 which two: " + street, x.swapped(n, 1), pair);
    }

    /** swapped: "(0: none brings more)", "10 times the lesser SMITH and the other one (NONE)"; no pair at all. */
    private static void swappedPairs() {
        swapped("", 200, 0, -1);
        swapped("smith 9 heat 19 piece 1;", 200, 0, -1);
        swapped("smith 9 heat 50 piece 1;".repeat(10), 200, 0, -1);
        // the strong arm is SMITH 9's, but the cold fire is his own, and SMITH 8 blows it
        swapped("smith 5 heat 50 piece 1;".repeat(9) + "smith 25 piece 1;", 9, 1, 89);
        swapped("smith 5 piece 1;smith 25 heat 50 piece 1;" + "smith 5 heat 50 piece 1;".repeat(8), 9, 1, 19);
        swapped("smith 5 heat 50 piece 1;smith 25 piece 1;", 9, 1, 1);
        // which of two strong arms: the first by numbers
        swapped("smith 5 heat 50 piece 1;smith 5 piece 1;smith 25 heat 50 piece 1;smith 25 heat 50 piece 1;", 9, 1, 2);
        // 19 is one too cold, and 25 comes to 39 in the second MINUTE, when it is struck in the third
        swapped("smith 5 heat 50 piece 1;smith 25 heat 19 piece 1;", 2, 0, -1);
        swapped("smith 5 heat 50 piece 1;smith 25 heat 19 piece 1;", 3, 1, 1);
    }

    /** swapped: "-2: what; -3: n; -5: MINUTE would be above 9999", in this order. */
    private static void swappedCodes() {
        for (int what : new int[] {-1, 2, Integer.MIN_VALUE, Integer.MAX_VALUE}) {
            EDGE.keeps("34 swapped(1, " + what + ")", Edge::worked, -2, x -> x.swapped(1, what));
            EDGE.keeps("34 -2 ahead of -3: " + what, Edge::worked, -2, x -> x.swapped(0, what));
            EDGE.keeps("34 -2 ahead of -5: " + what, Edge::last, -2, x -> x.swapped(1, what));
        }
        for (int n : NO_LENGTHS) {
            EDGE.keeps("34 swapped(" + n + ", 0)", Edge::worked, -3, x -> x.swapped(n, 0));
            EDGE.keeps("34 swapped(" + n + ", 1)", Edge::worked, -3, x -> x.swapped(n, 1));
            EDGE.keeps("34 -3 ahead of -5: " + n, Edge::last, -3, x -> x.swapped(n, 1));
        }
        late("34 swapped", n -> x -> x.swapped(n, 0));
        EDGE.keeps("34 at 9999", Edge::last, -5, x -> x.swapped(1, 0));
        EDGE.keeps("34 at 9999", Edge::last, -5, x -> x.swapped(1, 1));
        EDGE.keeps("34 swapped(200, 0)", Edge::worked, 0, x -> x.swapped(200, 0));
        EDGE.keeps("34 swapped(1, 1)", Edge::worked, -1, x -> x.swapped(1, 1));
    }

    private static void when(String street, int due) {
        CHECK.due("35 when of " + street, Check.streetOf(street).when(0), due);
    }

    /** when: "(0: it is ..)", "NONE: not within 300". */
    private static void whenBounds() {
        when("smith 0 piece 0;", 0);
        when("smith 0 heat 20 piece 1;", 1);
        when("smith 0 heat 100 piece 1;", 1);
        when("smith 6 heat 19 piece 1;", 2);
        when("smith 5 heat 19 piece 1;", -1);
        // up by 1 to LOW, a stroke (5 go), five MINUTES up again, and so on: 19 strokes
        when("smith 6 low 190 high 200 piece 19;", 191 + 18 * 6);
        when("smith 6 low 191 high 200 piece 19;", 300);
        when("smith 6 low 192 high 200 piece 19;", -1);
        when("smith 6 low 193 high 200 piece 19;", -1);
    }

    /** when: "-2". */
    private static void whenCodes() {
        for (int i : NOBODY) {
            EDGE.keeps("35 when(" + i + ")", Edge::worked, -2, x -> x.when(i));
        }
        EDGE.keeps("35 when(2)", Edge::worked, 0, x -> x.when(2));
        EDGE.keeps("35 when(1)", Edge::worked, 5, x -> x.when(1));
        EDGE.keeps("35 no SMITHS", Edge::fresh, -2, x -> x.when(0));
    }

    private static void warm(String street, int heat, int due) {
        CHECK.due("36 warm to " + heat + " of " + street, Check.streetOf(street).warm(0, heat), due);
    }

    /** WARM: "till HEAT is as much as told or more"; warm: "(0: it is)". */
    private static void warmBounds() {
        int[] heats = {0, 29, 30, 31, 39, 40, 41, 49, 50, 51};
        int[] due = {0, 0, 0, 1, 1, 1, 2, 2, 2, 3};
        for (int k = 0; k < heats.length; k++) {
            warm("smith 15 heat 30;", heats[k], due[k]);
        }
        warm("smith 15 heat 30;", 199, 17);
        warm("smith 15 heat 30;", 200, 17);
        warm("smith 60 heat 199;", 200, 1);
        warm("smith 60 heat 200;", 200, 0);
        warm("smith 1 cool 0;", 200, 200);
        warm("smith 6;", 200, 200);
        warm("smith 60 cool 0;".repeat(10), 200, 4);
        warm("smith 0 cool 30;", 0, 0);
    }

    /** warm: "NONE: never". */
    private static void warmNever() {
        warm("smith 4 heat 30;", 31, -1);
        warm("smith 5 heat 30;", 31, -1);
        warm("smith 6 heat 30;", 31, 1);
        warm("smith 5 heat 30;", 30, 0);
        warm("smith 0 cool 0 heat 30;", 31, -1);
        // nobody blows fire 0
        warm("smith 60 heat 30;smith 60;blows 0 1;blows 1 1;", 31, -1);
        warm("smith 60 heat 30;smith 60;blows 0 1;blows 1 1;", 30, 0);
        // several together
        warm("smith 2 heat 30;smith 3;blows 0 0;blows 1 0;", 31, -1);
        warm("smith 3 heat 30;smith 3;blows 0 0;blows 1 0;", 31, 1);
    }

    /** warm: "to a HEAT (0 to 200)"; "-2; -3". */
    private static void warmCodes() {
        for (int heat : new int[] {-1, 201, Integer.MIN_VALUE, Integer.MAX_VALUE}) {
            EDGE.keeps("36 warm(1, " + heat + ")", Edge::worked, -3, x -> x.warm(1, heat));
        }
        for (int i : NOBODY) {
            EDGE.keeps("36 warm(" + i + ", 1)", Edge::worked, -2, x -> x.warm(i, 1));
            EDGE.keeps("36 -2 ahead of -3: warm(" + i + ", -1)", Edge::worked, -2, x -> x.warm(i, -1));
            EDGE.keeps("36 -2 ahead of -3: warm(" + i + ", 201)", Edge::worked, -2, x -> x.warm(i, 201));
        }
        EDGE.keeps("36 warm(1, 0)", Edge::worked, 0, x -> x.warm(1, 0));
        EDGE.keeps("36 warm(1, 200)", Edge::worked, -1, x -> x.warm(1, 200));
        EDGE.keeps("36 no SMITHS", Edge::fresh, -2, x -> x.warm(0, 0));
    }

    private static void cold(String street, int due) {
        CHECK.due("37 cold of " + street, Check.streetOf(street).cold(0), due);
    }

    /** COLD: "till HEAT is below LOW, if nobody does (0: it is)"; cold: "NONE: never". */
    private static void coldBounds() {
        cold("smith 9 heat 19;", 0);
        cold("smith 9 heat 20;", 1);
        cold("smith 9 heat 24;", 1);
        cold("smith 9 heat 25;", 2);
        cold("smith 9 heat 200;", 37);
        cold("smith 9 cool 0 heat 19;", 0);
        cold("smith 9 cool 0 heat 20;", -1);
        cold("smith 9 cool 1 heat 20;", 1);
        cold("smith 9 cool 30 heat 0 low 0;", -1);
        cold("smith 9 cool 30 heat 200 low 0;", -1);
        cold("smith 9 cool 30 heat 0 low 1;", 0);
        cold("smith 9 cool 30 heat 1 low 1;", 1);
        cold("smith 9 cool 1 heat 200 low 1;", 200);
        cold("smith 9 cool 1 heat 200 low 200;", 1);
        cold("smith 9 cool 1 heat 199 low 200;", 0);
    }

    /** cold: "-2". */
    private static void coldCodes() {
        for (int i : NOBODY) {
            EDGE.keeps("37 cold(" + i + ")", Edge::worked, -2, x -> x.cold(i));
        }
        EDGE.keeps("37 cold(1)", Edge::worked, 13, x -> x.cold(1));
        EDGE.keeps("37 cold(2)", Edge::worked, -1, x -> x.cold(2));
        EDGE.keeps("37 no SMITHS", Edge::fresh, -2, x -> x.cold(0));
    }

    /** when: "MINUTE 9999 aside"; nor do the others here ask how late it is. */
    private static void lastMinute() {
        Supplier<BlownNext> late = () -> {
            BlownNext x = Check.streetOf("smith 20 piece 1;smith 20 piece 0;smith 20 piece 0;");
            for (int k = 0; k < 49; k++) {
                x.live(200);
            }
            x.live(199);
            x.piece(1, 1);
            x.numbers(0, 1, 3);
            return x;
        };
        EDGE.keeps("43 MINUTE", late, 9999, x -> x.count(1));
        EDGE.keeps("35 at 9999", late, 1, x -> x.when(1));
        EDGE.keeps("35 at 9999", late, 0, x -> x.when(0));
        EDGE.keeps("27 at 9999", late, 1, BlownNext::soonest);
        EDGE.keeps("28 at 9999", late, 0, x -> x.seen(0));
        EDGE.keeps("29 at 9999", late, 0, x -> x.sure(0, true));
        EDGE.keeps("30 at 9999", late, 45, x -> x.ropes(0));
        EDGE.keeps("36 at 9999", late, 0, x -> x.warm(0, 20));
        EDGE.keeps("38 at 9999", late, -3, x -> x.numbers(0, 1, 41));
    }
}
