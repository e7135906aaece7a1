/** Boundary cases of promises 16 to 19: rings of one and of all, ways that lead nowhere, no smiths. */
public final class RingsEdgesTest {
    private static final Check CHECK = new Check("RingsEdgesTest");
    private static final Edge EDGE = new Edge(CHECK);
    private static final int[] NOBODY = {-1, 3, 10, Integer.MIN_VALUE, Integer.MAX_VALUE};

    public static void main(String[] args) {
        ringsOfAll();
        ringsOfOne();
        waysIntoRings();
        nobodysRing();
        noSmiths();
        stepsRound();
        stepsToHimself();
        stepsNowhere();
        nobodysSteps();
        unblownNoneAndMost();
        CHECK.end();
    }

    /** "SMITHS each of whom blows the next one, the last the first". */
    private static void ringsOfAll() {
        for (int n = 1; n <= 10; n++) {
            BlownNext x = Edge.many(n);
            for (int i = 0; i < n; i++) {
                CHECK.due("16 ring(" + i + ") of " + n, x.ring(i), n);
            }
            CHECK.due("16 ring(" + n + ") of " + n, x.ring(n), -2);
            CHECK.due("17 rings() of " + n, x.rings(), 1);
            CHECK.due("19 unblown() of " + n, x.unblown(), 0);
        }
    }

    /** "(one who blows himself, too)". */
    private static void ringsOfOne() {
        for (int n = 1; n <= 10; n++) {
            BlownNext x = Edge.many(n);
            for (int i = 0; i < n; i++) {
                x.rope(i, i);
            }
            for (int i = 0; i < n; i++) {
                CHECK.due("16 ring(" + i + ") alone", x.ring(i), 1);
            }
            CHECK.due("17 as many RINGS as SMITHS, " + n, x.rings(), n);
            CHECK.due("19 all are blown", x.unblown(), 0);
        }
    }

    /** ring: "to which a way from a SMITH leads": the longest way, and RINGS of two. */
    private static void waysIntoRings() {
        BlownNext x = Edge.many(10);
        x.rope(9, 9);
        CHECK.due("16 nine ropes away", x.ring(0), 1);
        CHECK.due("17 one", x.rings(), 1);
        CHECK.due("18 nine ropes", x.steps(0, 9), 9);
        x.rope(9, 8);
        CHECK.due("16 a RING of two", x.ring(0), 2);
        CHECK.due("17 one", x.rings(), 1);
        x.rope(9, 1);
        CHECK.due("16 a RING of nine", x.ring(0), 9);
        CHECK.due("16 a RING of nine", x.ring(9), 9);
        CHECK.due("17 one", x.rings(), 1);
        for (int i = 0; i < 10; i++) {
            x.rope(i, i ^ 1);
        }
        CHECK.due("16 pairs", x.ring(7), 2);
        CHECK.due("17 five", x.rings(), 5);
        x.rope(4, 6);
        x.rope(0, 5);
        CHECK.due("17 three, with ways into them", x.rings(), 3);
        CHECK.due("16 the way from 1", x.ring(1), 2);
    }

    /** ring: "-2". */
    private static void nobodysRing() {
        for (int i : NOBODY) {
            EDGE.keeps("16 ring(" + i + ")", Edge::worked, -2, x -> x.ring(i));
        }
        EDGE.keeps("16 his own fire", Edge::worked, 1, x -> x.ring(0));
        EDGE.keeps("16 a way to it", Edge::worked, 1, x -> x.ring(1));
        EDGE.keeps("17 one RING", Edge::worked, 1, x -> x.rings());
        EDGE.keeps("19 fire 1", Edge::worked, 2, x -> x.unblown());
    }

    private static void noSmiths() {
        EDGE.keeps("16 none such", Edge::fresh, -2, x -> x.ring(0));
        EDGE.keeps("17 no RINGS", Edge::fresh, 0, x -> x.rings());
        EDGE.keeps("18 none such", Edge::fresh, -2, x -> x.steps(0, 0));
        EDGE.keeps("19 no fires", Edge::fresh, 0, x -> x.unblown());
    }

    /** steps: round a RING to the one behind him. */
    private static void stepsRound() {
        for (int n = 1; n <= 10; n++) {
            BlownNext x = Edge.many(n);
            for (int i = 0; i < n; i++) {
                CHECK.due("18 to the one behind, of " + n, x.steps(i, (i + n - 1) % n), n - 1);
                CHECK.due("18 to the next, of " + n, x.steps(i, (i + 1) % n), n == 1 ? 0 : 1);
            }
        }
    }

    /** steps: "(0: to himself)", even if he is in no RING. */
    private static void stepsToHimself() {
        EDGE.keeps("18 in a RING", Edge::worked, 0, x -> x.steps(0, 0));
        EDGE.keeps("18 in none", Edge::worked, 0, x -> x.steps(1, 1));
    }

    /** steps: "NONE: it doesn't lead there". */
    private static void stepsNowhere() {
        EDGE.keeps("18 two ropes", Edge::worked, 2, x -> x.steps(1, 0));
        EDGE.keeps("18 out of the RING", Edge::worked, -1, x -> x.steps(0, 1));
        EDGE.keeps("18 backwards", Edge::worked, -1, x -> x.steps(2, 1));
    }

    /** steps: "-2", of either; ahead of NONE. */
    private static void nobodysSteps() {
        for (int i : NOBODY) {
            EDGE.keeps("18 steps(" + i + ", 0)", Edge::worked, -2, x -> x.steps(i, 0));
            EDGE.keeps("18 steps(0, " + i + ")", Edge::worked, -2, x -> x.steps(0, i));
            EDGE.keeps("18 steps(" + i + ", " + i + ")", Edge::worked, -2, x -> x.steps(i, i));
        }
        BlownNext x = Edge.many(10);
        CHECK.due("18 steps(9, 9)", x.steps(9, 9), 0);
        CHECK.due("18 steps(9, 10)", x.steps(9, 10), -2);
        CHECK.due("18 steps(10, 9)", x.steps(10, 9), -2);
    }

    /** unblown: nobody, and all but one. */
    private static void unblownNoneAndMost() {
        BlownNext x = Edge.many(10);
        for (int i = 0; i < 10; i++) {
            x.rope(i, 9);
        }
        CHECK.due("19 all but the tenth", x.unblown(), 511);
        CHECK.due("17 one", x.rings(), 1);
        CHECK.due("16 the tenth alone", x.ring(0), 1);
        for (int i = 0; i < 10; i++) {
            x.rope(i, 0);
        }
        CHECK.due("19 all but the first", x.unblown(), 1022);
    }
}
