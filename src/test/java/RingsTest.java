/** Promises 16 to 19: who is blown by whom, rings of ropes. */
public final class RingsTest {
    private static final Check CHECK = new Check("RingsTest");

    public static void main(String[] args) {
        BlownNext x = Check.streetOf("smith 1;smith 1;smith 1;smith 1;smith 1;smith 1;"
            + "blows 2 0;blows 3 2;blows 4 4;blows 5 3;");
        int[] rings = {3, 3, 3, 3, 1, 3};
        for (int i = 0; i < 6; i++) {
            CHECK.due("16 ring(" + i + ")", x.ring(i), rings[i]);
        }
        CHECK.due("16 ring(6)", x.ring(6), -2);
        CHECK.due("16 ring(-1)", x.ring(-1), -2);
        CHECK.due("17 rings()", x.rings(), 2);
        CHECK.due("18 steps(5, 1)", x.steps(5, 1), 4);
        CHECK.due("18 steps(5, 3)", x.steps(5, 3), 1);
        CHECK.due("18 steps(0, 2)", x.steps(0, 2), 2);
        CHECK.due("18 steps(0, 3)", x.steps(0, 3), -1);
        CHECK.due("18 steps(0, 4)", x.steps(0, 4), -1);
        CHECK.due("18 steps(4, 0)", x.steps(4, 0), -1);
        CHECK.due("18 steps(4, 4)", x.steps(4, 4), 0);
        CHECK.due("18 steps(5, 5)", x.steps(5, 5), 0);
        CHECK.due("18 steps(6, 0)", x.steps(6, 0), -2);
        CHECK.due("18 steps(0, 6)", x.steps(0, 6), -2);
        CHECK.due("18 steps(-1, 0)", x.steps(-1, 0), -2);
        CHECK.due("18 steps(0, -1)", x.steps(0, -1), -2);
        CHECK.due("19 unblown()", x.unblown(), 32);
        x.rope(0, 0);
        CHECK.due("17 rings()", x.rings(), 2);
        CHECK.due("16 ring(5)", x.ring(5), 1);
        CHECK.due("19 unblown()", x.unblown(), 2 + 32);
        x.rope(1, 1);
        x.rope(2, 3);
        x.rope(5, 5);
        CHECK.due("17 rings()", x.rings(), 5);
        CHECK.due("16 ring(3)", x.ring(3), 2);
        CHECK.due("19 unblown()", x.unblown(), 0);
        x = new BlownNext();
        CHECK.due("17 no smiths", x.rings(), 0);
        CHECK.due("19 no smiths", x.unblown(), 0);
        CHECK.due("16 no smiths", x.ring(0), -2);
        x = Check.streetOf("smith 0;smith 0;smith 0;smith 0;smith 0;smith 0;smith 0;smith 0;smith 0;smith 0;");
        CHECK.due("16 ten in one", x.ring(7), 10);
        CHECK.due("17 one", x.rings(), 1);
        CHECK.due("18 round", x.steps(1, 0), 9);
        CHECK.end();
    }
}
