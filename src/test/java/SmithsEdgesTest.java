/** Boundary cases of promises 5 to 9: who is asked for, whom he blows, his arm, his piece. */
public final class SmithsEdgesTest {
    private static final Check CHECK = new Check("SmithsEdgesTest");
    private static final Edge EDGE = new Edge(CHECK);
    /** No SMITHS of Edge.worked(), which has three. */
    private static final int[] NOBODY = {-1, 3, 9, 10, 32, Integer.MIN_VALUE, Integer.MAX_VALUE};

    public static void main(String[] args) {
        smithsWhat();
        noSuchSmith();
        tenthSmith();
        blowersOfNone();
        ropes();
        ropesOfNobody();
        arms();
        armsBounds();
        pieces();
        piecesBounds();
        doneAtOnce();
        newPiece();
        codesInOrder();
        CHECK.end();
    }

    /** smith: "what 0 .. 9"; "-2". */
    private static void smithsWhat() {
        long[] due = {7, 2, 34, 10, 90, 6, 1, 0, 2, 0};
        for (int what = 0; what < 10; what++) {
            int asked = what;
            EDGE.keeps("5 smith(1, " + what + ")", Edge::worked, due[what], x -> x.smith(1, asked));
        }
        for (int what : new int[] {-1, 10, 11, Integer.MIN_VALUE, Integer.MAX_VALUE}) {
            EDGE.keeps("5 smith(1, " + what + ")", Edge::worked, -2, x -> x.smith(1, what));
        }
        EDGE.keeps("5 how often his PIECE was BURNT", Edge::worked, 1, x -> x.smith(0, 7));
        EDGE.keeps("5 DONE with 0 strokes", Edge::worked, 1, x -> x.smith(2, 9));
    }

    /** smith, blowers: "-2: there is none such". */
    private static void noSuchSmith() {
        for (int i : NOBODY) {
            for (int what = -1; what <= 10; what++) {
                int asked = what;
                EDGE.keeps("5 smith(" + i + ", " + what + ")", Edge::worked, -2, x -> x.smith(i, asked));
            }
            EDGE.keeps("6 blowers(" + i + ")", Edge::worked, -2, x -> x.blowers(i));
        }
        EDGE.keeps("5 smith(0, 0) of none", Edge::fresh, -2, x -> x.smith(0, 0));
        EDGE.keeps("6 blowers(0) of none", Edge::fresh, -2, x -> x.blowers(0));
    }

    /** "10 at most": all calls know the tenth. */
    private static void tenthSmith() {
        BlownNext x = Edge.many(10);
        CHECK.due("5 smith(9, 0)", x.smith(9, 0), 6);
        CHECK.due("5 smith(10, 0)", x.smith(10, 0), -2);
        CHECK.due("6 blowers(9)", x.blowers(9), 1 << 8);
        CHECK.due("6 blowers(0)", x.blowers(0), 1 << 9);
        CHECK.due("6 blowers(10)", x.blowers(10), -2);
        CHECK.due("7 rope(9, 9)", x.rope(9, 9), 0);
        CHECK.due("7 rope(9, 10)", x.rope(9, 10), -2);
        CHECK.due("7 rope(10, 9)", x.rope(10, 9), -2);
        CHECK.due("6 blowers(9)", x.blowers(9), 3 << 8);
        CHECK.due("8 arm(9, 1)", x.arm(9, 1), 6);
        CHECK.due("8 arm(10, 1)", x.arm(10, 1), -2);
        CHECK.due("9 piece(9, 1)", x.piece(9, 1), 0);
        CHECK.due("9 piece(10, 1)", x.piece(10, 1), -2);
        for (int i = 0; i < 9; i++) {
            x.rope(i, 4);
        }
        CHECK.due("6 nine of ten", x.blowers(4), (1 << 9) - 1);
        x.rope(9, 4);
        CHECK.due("6 all ten", x.blowers(4), (1 << 10) - 1);
    }

    /** blowers: nobody. */
    private static void blowersOfNone() {
        EDGE.keeps("6 two blow fire 0", Edge::worked, 5, x -> x.blowers(0));
        EDGE.keeps("6 nobody blows fire 1", Edge::worked, 0, x -> x.blowers(1));
        EDGE.keeps("6 one blows fire 2", Edge::worked, 2, x -> x.blowers(2));
    }

    /** rope: "another one's fire (or his own) from now on: whose he blew". */
    private static void ropes() {
        BlownNext x = Edge.worked();
        CHECK.due("7 to the last", x.rope(0, 2), 0);
        CHECK.due("7 to the first", x.rope(2, 0), 0);
        CHECK.due("7 his own", x.rope(2, 2), 0);
        CHECK.due("7 the same again", x.rope(2, 2), 2);
        CHECK.due("5 whom 2 blows", x.smith(2, 8), 2);
        CHECK.due("5 whom 0 blows", x.smith(0, 8), 2);
        CHECK.due("6 all three", x.blowers(2), 7);
        CHECK.due("6 nobody", x.blowers(0), 0);
        x.minute(7, 0);
        CHECK.due("7 they blow it", x.smith(2, 2), 30 + 60 + 7 + 12);
        EDGE.changes("7 a rope laid anew", Edge::worked, 0, y -> y.rope(0, 1));
    }

    /** rope: "-2: one of both". */
    private static void ropesOfNobody() {
        for (int i : NOBODY) {
            EDGE.keeps("7 rope(" + i + ", 0)", Edge::worked, -2, x -> x.rope(i, 0));
            EDGE.keeps("7 rope(0, " + i + ")", Edge::worked, -2, x -> x.rope(0, i));
            EDGE.keeps("7 rope(" + i + ", " + i + ")", Edge::worked, -2, x -> x.rope(i, i));
        }
        EDGE.keeps("7 rope(0, 0) of none", Edge::fresh, -2, x -> x.rope(0, 0));
    }

    /** arm: "what it was". */
    private static void arms() {
        BlownNext x = Edge.worked();
        CHECK.due("8 arm(0, 0)", x.arm(0, 0), 60);
        CHECK.due("8 arm(0, 1)", x.arm(0, 1), 0);
        CHECK.due("8 arm(0, 59)", x.arm(0, 59), 1);
        CHECK.due("8 arm(0, 60)", x.arm(0, 60), 59);
        CHECK.due("5 BLAST", x.smith(0, 0), 60);
        EDGE.changes("8 another arm", Edge::worked, 60, y -> y.arm(0, 59));
    }

    /** arm: "-3: it isn't 0 to 60". */
    private static void armsBounds() {
        for (int blast : new int[] {-1, 61, Integer.MIN_VALUE, Integer.MAX_VALUE}) {
            EDGE.keeps("8 arm(0, " + blast + ")", Edge::worked, -3, x -> x.arm(0, blast));
        }
    }

    /** piece: "how many strokes the old one had". */
    private static void pieces() {
        BlownNext x = Edge.worked();
        CHECK.due("9 it had one", x.piece(1, 20), 1);
        CHECK.due("5 needs", x.smith(1, 5), 20);
        CHECK.due("5 has", x.smith(1, 6), 0);
        CHECK.due("9 it had none", x.piece(1, 19), 0);
        CHECK.due("9 piece(1, 1)", x.piece(1, 1), 0);
        CHECK.due("10 the only stroke", x.minute(0, 2), 1);
        CHECK.due("5 DONE", x.smith(1, 9), 1);
        CHECK.due("9 of one that is DONE", x.piece(1, 1), 1);
        CHECK.due("5 not DONE", x.smith(1, 9), 0);
        EDGE.changes("9 a new PIECE", Edge::worked, 1, y -> y.piece(1, 6));
    }

    /** piece: "(0 to 20)"; "-3". */
    private static void piecesBounds() {
        for (int strokes : new int[] {-1, 21, Integer.MIN_VALUE, Integer.MAX_VALUE}) {
            EDGE.keeps("9 piece(1, " + strokes + ")", Edge::worked, -3, x -> x.piece(1, strokes));
        }
    }

    /** "with 0 it is DONE at once". */
    private static void doneAtOnce() {
        BlownNext x = Edge.two();
        CHECK.due("43 none is DONE", x.count(2), 0);
        CHECK.due("9 piece(0, 0)", x.piece(0, 0), 0);
        CHECK.due("5 DONE", x.smith(0, 9), 1);
        CHECK.due("43 one is DONE", x.count(2), 1);
        CHECK.due("10 no stroke counts", x.minute(0, 1), 0);
        CHECK.due("5 it has none", x.smith(0, 6), 0);
    }

    /** A new PIECE was never BURNT; that the old one was stays in count(3). */
    private static void newPiece() {
        BlownNext x = Edge.worked();
        CHECK.due("43 BURNT once", x.count(3), 1);
        CHECK.due("9 piece(0, 2)", x.piece(0, 2), 0);
        CHECK.due("5 the new one never", x.smith(0, 7), 0);
        CHECK.due("43 still once", x.count(3), 1);
        CHECK.due("5 HEAT stays", x.smith(0, 2), 152);
        CHECK.due("43 MINUTE stays", x.count(1), 3);
    }

    /** "Of several that which the call tells first": arm and piece tell -2 ahead of -3. */
    private static void codesInOrder() {
        for (int i : NOBODY) {
            EDGE.keeps("8 arm(" + i + ", 61)", Edge::worked, -2, x -> x.arm(i, 61));
            EDGE.keeps("8 arm(" + i + ", -1)", Edge::worked, -2, x -> x.arm(i, -1));
            EDGE.keeps("8 arm(" + i + ", 5)", Edge::worked, -2, x -> x.arm(i, 5));
            EDGE.keeps("9 piece(" + i + ", 21)", Edge::worked, -2, x -> x.piece(i, 21));
            EDGE.keeps("9 piece(" + i + ", -1)", Edge::worked, -2, x -> x.piece(i, -1));
            EDGE.keeps("9 piece(" + i + ", 5)", Edge::worked, -2, x -> x.piece(i, 5));
        }
    }
}
