/** Promises 1 to 9: the street as a text, its faults, its smiths. */
public final class StreetTest {
    private static final Check CHECK = new Check("StreetTest");
    private static final String TEN = "smith 0;smith 0;smith 0;smith 0;smith 0;smith 0;smith 0;smith 0;smith 0;smith 0;";

    public static void main(String[] args) {
        newObject();
        tape();
        goodTexts();
        faults();
        faultsChangeNothing();
        smiths();
        ropesAndArms();
        pieces();
        CHECK.end();
    }

    private static void newObject() {
        BlownNext x = new BlownNext();
        for (int what = 0; what < 8; what++) {
            CHECK.due("1 count(" + what + ")", x.count(what), 0);
        }
        CHECK.due("1 count(8)", x.count(8), 20);
        CHECK.due("1 fault(0)", x.fault(0), 0);
        CHECK.due("1 fault(1)", x.fault(1), BlownNext.NONE);
        CHECK.due("1 NONE", BlownNext.NONE, -1);
        CHECK.due("1 smith(0, 0)", x.smith(0, 0), -2);
        CHECK.due("1 blowers(0)", x.blowers(0), -2);
    }

    private static void tape() {
        BlownNext x = new BlownNext();
        for (int k = 1; k <= 45; k++) {
            CHECK.due("2 feed", x.feed(0x20202020, 0x20202020, 0x20202020, 0x20202020, 0x20202020), 20 * k);
        }
        CHECK.due("2 feed above 900", x.feed(0, 0, 0, 0, 0), -5);
        CHECK.due("2 count(6)", x.count(6), 900);
        CHECK.due("3 street(901)", x.street(901), -3);
        CHECK.due("3 street(-1)", x.street(-1), -3);
        CHECK.due("3 the tape stays", x.count(6), 900);
        CHECK.due("3 street(900)", x.street(900), 0);
        CHECK.due("3 the tape is empty", x.count(6), 0);
        CHECK.due("2 feed anew", x.feed(0x736d6974, 0x6820373b, 0x736d6974, 0x68203b20, 0x20202020), 20);
        CHECK.due("3 the first 8 alone", x.street(8), 1);
        CHECK.due("3 the rest is gone", x.count(6), 0);
        CHECK.due("5 blast", x.smith(0, 0), 7);
    }

    private static void goodTexts() {
        String[] texts = {"", " \n ", "smith 60;", "smith 000;", "smith0;", "smith\n0\n;\n", "smith 0cool1heat2low3high4piece5;",
            "smith 0 cool 30 heat 200 low 200 high 200 piece 20;", "smith 0 high 20;", "smith 0 low 0 high 0;", "burnt 0;",
            "burnt 20;burnt 3;", TEN + "blows 9 9;blows 9 0;", "smith 1;blows 0 0;smith 2;", "smith 0 cool 0 piece 0;"};
        int[] lines = {0, 0, 1, 1, 1, 1, 1, 1, 1, 1, 1, 2, 12, 3, 1};
        for (int k = 0; k < texts.length; k++) {
            BlownNext x = new BlownNext();
            CHECK.due("3 street of " + texts[k], Check.tell(x, texts[k]), lines[k]);
            CHECK.due("43 lines of " + texts[k], x.count(7), lines[k]);
            CHECK.due("4 fault(0) of " + texts[k], x.fault(0), 0);
            CHECK.due("4 fault(1) of " + texts[k], x.fault(1), -1);
        }
    }

    private static void fault(String text, int kind, int place) {
        BlownNext x = new BlownNext();
        CHECK.due("3 street of " + text, Check.tell(x, text), -30 - kind);
        CHECK.due("4 fault(0) of " + text, x.fault(0), kind);
        CHECK.due("4 fault(1) of " + text, x.fault(1), place);
        CHECK.due("4 fault(2)", x.fault(2), -1);
        CHECK.due("4 fault(-1)", x.fault(-1), -1);
    }

    private static void faults() {
        fault("smith 61;", 3, 6);
        fault("smith 0 cool 31;", 3, 13);
        fault("smith 0 heat 201;", 3, 13);
        fault("smith 0 low 201;", 3, 12);
        fault("smith 0 low 50 high 49;", 3, 20);
        fault("smith 0 high 19;", 3, 13);
        fault("smith 0 high 201;", 3, 13);
        fault("smith 0 piece 21;", 3, 14);
        fault("burnt 21;", 3, 6);
        fault("blows 0 0;", 3, 6);
        fault("smith 1;blows 0 1;", 3, 16);
        fault("smith 1;blows 1 0;smith 2;", 3, 14);
        fault(TEN + "blows 10 0;", 3, 86);
        fault("smith 0 low 1 cool 1;", 2, 14);
        fault("smith 0 heat 5 heat 6;", 2, 15);
        fault("smith 0 5;", 2, 8);
        fault("smith;", 2, 5);
        fault("smith", 2, 5);
        fault("smith 0", 2, 7);
        fault("smith 0 \n ", 2, 10);
        fault("smith 0 cool;", 2, 12);
        fault("smith cool 1;", 2, 6);
        fault("smiths 0;", 2, 0);
        fault("smit 0;", 2, 0);
        fault("cool 0;", 2, 0);
        fault("z;", 2, 0);
        fault("a;", 2, 0);
        fault("`;", 1, 0);
        fault("{;", 1, 0);
        fault("smith /;", 1, 6);
        fault("smith :;", 1, 6);
        fault("smith 0;blows 0;", 2, 15);
        fault("burnt;", 2, 5);
        fault(";", 2, 0);
        fault("smith 0;;", 2, 8);
        fault("5;", 2, 0);
        fault("smith 0000;", 1, 6);
        fault("smith 99999;", 1, 6);
        fault("Smith 0;", 1, 0);
        fault("smith 0\t;", 1, 7);
        fault("smith 0;" + (char) 233, 1, 8);
        fault("smith 0;" + (char) 0, 1, 8);
        fault("smith-1;", 1, 5);
        fault("smith 61,", 3, 6);
        fault("smith x,", 2, 6);
        fault("smith 0,61", 1, 7);
        fault("burnt 21 0000;", 3, 6);
        fault(TEN + "smith 99;", 4, 80);
        fault(TEN + "smith,", 4, 80);
        fault(TEN + "smithy 0;", 2, 80);
        fault(TEN + "smit,h 0;", 2, 80);
    }

    private static void faultsChangeNothing() {
        BlownNext x = Check.streetOf("smith 7 heat 40;burnt 4;");
        x.minute(0, 1);
        CHECK.due("3 a fault", Check.tell(x, "burnt 9;smith 3;smith 3;smith 77;"), -33);
        CHECK.due("3 the tape is empty", x.count(6), 0);
        CHECK.due("3 smiths stay", x.count(0), 1);
        CHECK.due("3 minute stays", x.count(1), 1);
        CHECK.due("3 lines stay", x.count(7), 2);
        CHECK.due("3 the loss stays", x.count(8), 4);
        CHECK.due("3 heat stays", x.smith(0, 2), 35);
        CHECK.due("3 strokes stay", x.smith(0, 6), 1);
        CHECK.due("3 not read", x.street(1), -3);
        CHECK.due("4 the latest that was read", x.fault(0), 3);
        CHECK.due("4 its place", x.fault(1), 30);
        CHECK.due("3 a new street", Check.tell(x, "smith 8;"), 1);
        CHECK.due("4 no fault now", x.fault(0), 0);
        CHECK.due("4 no place now", x.fault(1), -1);
        CHECK.due("3 minute is 0", x.count(1), 0);
        CHECK.due("3 strokes are 0", x.smith(0, 6), 0);
        CHECK.due("3 the loss is 20", x.count(8), 20);
    }

    private static void smiths() {
        BlownNext x = Check.streetOf("smith 12;smith 1 cool 2 heat 3 low 4 high 5 piece 6;smith 9 low 150 piece 0;burnt 7;blows 1 1;blows 1 0;");
        int[][] due = {{12, 5, 0, 20, 100, 3, 0, 0, 1, 0}, {1, 2, 3, 4, 5, 6, 0, 0, 0, 0}, {9, 5, 0, 150, 150, 0, 0, 0, 0, 1}};
        for (int i = 0; i < 3; i++) {
            for (int what = 0; what < 10; what++) {
                CHECK.due("5 smith(" + i + ", " + what + ")", x.smith(i, what), due[i][what]);
            }
            CHECK.due("5 what 10", x.smith(i, 10), -2);
            CHECK.due("5 what -1", x.smith(i, -1), -2);
        }
        CHECK.due("5 smith(3, 0)", x.smith(3, 0), -2);
        CHECK.due("5 smith(-1, 0)", x.smith(-1, 0), -2);
        CHECK.due("6 blowers(0)", x.blowers(0), 6);
        CHECK.due("6 blowers(1)", x.blowers(1), 1);
        CHECK.due("6 blowers(2)", x.blowers(2), 0);
        CHECK.due("6 blowers(3)", x.blowers(3), -2);
        CHECK.due("6 blowers(-1)", x.blowers(-1), -2);
        CHECK.due("43 loss", x.count(8), 7);
        CHECK.due("43 lines", x.count(7), 6);
        CHECK.due("5 one alone blows himself", Check.streetOf("smith 5;").smith(0, 8), 0);
    }

    private static void ropesAndArms() {
        BlownNext x = Check.streetOf("smith 1;smith 2;smith 3;");
        CHECK.due("7 rope(0, 2)", x.rope(0, 2), 1);
        CHECK.due("7 rope(0, 0)", x.rope(0, 0), 2);
        CHECK.due("7 whom he blows", x.smith(0, 8), 0);
        CHECK.due("7 rope(3, 0)", x.rope(3, 0), -2);
        CHECK.due("7 rope(0, 3)", x.rope(0, 3), -2);
        CHECK.due("7 rope(-1, 0)", x.rope(-1, 0), -2);
        CHECK.due("7 rope(0, -1)", x.rope(0, -1), -2);
        CHECK.due("7 nothing changed", x.smith(0, 8), 0);
        CHECK.due("8 arm(1, 60)", x.arm(1, 60), 2);
        CHECK.due("8 arm(1, 0)", x.arm(1, 0), 60);
        CHECK.due("8 arm(1, 61)", x.arm(1, 61), -3);
        CHECK.due("8 arm(1, -1)", x.arm(1, -1), -3);
        CHECK.due("8 arm(3, 61)", x.arm(3, 61), -2);
        CHECK.due("8 arm(-1, 1)", x.arm(-1, 1), -2);
        CHECK.due("8 blast", x.smith(1, 0), 0);
    }

    private static void pieces() {
        BlownNext x = Check.streetOf("smith 60 heat 90;blows 0 0;burnt 1;");
        x.minute(0, 1);
        x.minute(0, 1);
        x.minute(1, 0);
        CHECK.due("9 strokes behind the fire", x.smith(0, 6), 1);
        CHECK.due("9 burnt", x.smith(0, 7), 1);
        CHECK.due("9 piece(0, 21)", x.piece(0, 21), -3);
        CHECK.due("9 piece(0, -1)", x.piece(0, -1), -3);
        CHECK.due("9 piece(1, 21)", x.piece(1, 21), -2);
        CHECK.due("9 piece(-1, 2)", x.piece(-1, 2), -2);
        CHECK.due("9 piece(0, 20)", x.piece(0, 20), 1);
        CHECK.due("9 needs", x.smith(0, 5), 20);
        CHECK.due("9 has", x.smith(0, 6), 0);
        CHECK.due("9 the new one was never burnt", x.smith(0, 7), 0);
        CHECK.due("43 the old one was burnt", x.count(3), 1);
        CHECK.due("9 piece(0, 0)", x.piece(0, 0), 0);
        CHECK.due("9 done at once", x.smith(0, 9), 1);
    }
}
