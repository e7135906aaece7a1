/** Boundary cases of promises 38 to 43: rows of numbers, their sorts and places, images, what is counted. */
public final class RowsEdgesTest {
    private static final Check CHECK = new Check("RowsEdgesTest");
    private static final Edge EDGE = new Edge(CHECK);
    private static final int[] NO_ROWS = {-1, 4, 5, Integer.MIN_VALUE, Integer.MAX_VALUE};
    private static final int[] NO_IMAGES = {-1, 2, 3, Integer.MIN_VALUE, Integer.MAX_VALUE};

    public static void main(String[] args) {
        missingAtFirst();
        numbersOfARow();
        allAreZero();
        rowsAndSorts();
        howManyNumbers();
        numbersCodesInOrder();
        cutToSort();
        places();
        writesCodes();
        copiesPlaces();
        copiesCodes();
        copiesCut();
        imagesNumbers();
        imagesNoneAtFirst();
        imagesAreTwo();
        whatAnImageHas();
        imagesOfBurntOnes();
        whatAnImageHasNot();
        countsWhat();
        countsAtBounds();
        CHECK.end();
    }

    /** "ROWS OF NUMBERS 0 to 3 are MISSING at first". */
    private static void missingAtFirst() {
        for (int row = 0; row < 4; row++) {
            int some = row;
            EDGE.keeps("39 write of " + row, Edge::two, -6, x -> x.write(some, 0, 1));
            EDGE.keeps("40 copy of " + row, Edge::two, -6, x -> x.copy(some));
            EDGE.keeps("11 judge of " + row, Edge::two, -6, x -> x.judge(some, 0));
            EDGE.keeps("12 perform of " + row, Edge::two, -6, x -> x.perform(some));
            EDGE.keeps("20 holds of " + row, Edge::two, -6, x -> x.holds(some, 1, 0));
            EDGE.keeps("21 even of " + row, Edge::two, -6, x -> x.even(some, 1));
            EDGE.keeps("28 seen of " + row, Edge::two, -6, x -> x.seen(some));
            EDGE.keeps("29 sure of " + row, Edge::two, -6, x -> x.sure(some, true));
            BlownNext x = Edge.two();
            x.numbers(row, 0, 0);
            for (int other = 0; other < 4; other++) {
                CHECK.due("39 " + other + " beside " + row, x.write(other, 0, 1), other == row ? -7 : -6);
            }
        }
    }

    /** "have 0 to 40 numbers": how many there are, and that none is behind them. */
    private static void numbersOfARow() {
        for (int n : new int[] {0, 1, 2, 39, 40}) {
            for (int row = 0; row < 4; row++) {
                BlownNext x = Edge.two();
                CHECK.due("38 numbers(" + row + ", 2, " + n + ")", x.numbers(row, 2, n), 0);
                if (n > 0) {
                    CHECK.due("39 the first of " + n, x.write(row, 0, 5), 5);
                    CHECK.due("39 the last of " + n, x.write(row, n - 1, 6), 6);
                }
                CHECK.due("39 behind the last of " + n, x.write(row, n, 7), -7);
            }
        }
    }

    /** numbers: "all 0 (in place of another one)". */
    private static void allAreZero() {
        BlownNext x = Edge.two();
        x.numbers(0, 3, 40);
        for (int i = 0; i < 40; i++) {
            x.write(0, i, -1);
        }
        CHECK.due("11 others than SMITHS", x.judge(0, 1), 1);
        CHECK.due("38 anew", x.numbers(0, 3, 40), 0);
        CHECK.due("11 twenty MINUTES of rest", x.judge(0, 0), -1);
        CHECK.due("12 twenty MINUTES of rest", x.perform(0), 20);
        x.write(0, 3, 1);
        CHECK.due("38 fewer", x.numbers(0, 0, 3), 0);
        CHECK.due("38 more again", x.numbers(0, 0, 4), 0);
        CHECK.due("11 all are 0", x.judge(0, 0), -1);
        CHECK.due("11 and nobody struck", x.judge(0, 2), 0);
        EDGE.changes("38 in place of three", Edge::worked, 0, y -> y.numbers(0, 2, 3));
        EDGE.changes("38 in place of none", Edge::worked, 0, y -> y.numbers(3, 0, 0));
        EDGE.changes("38 of another sort", Edge::worked, 0, y -> y.numbers(2, 2, 40));
    }

    /** numbers: "-2: no such ROW, sort". */
    private static void rowsAndSorts() {
        for (int row : NO_ROWS) {
            EDGE.keeps("38 numbers(" + row + ", 0, 1)", Edge::worked, -2, x -> x.numbers(row, 0, 1));
        }
        for (int sort : new int[] {-1, 4, 5, Integer.MIN_VALUE, Integer.MAX_VALUE}) {
            EDGE.keeps("38 numbers(0, " + sort + ", 1)", Edge::worked, -2, x -> x.numbers(0, sort, 1));
            EDGE.keeps("38 numbers(3, " + sort + ", 1)", Edge::worked, -2, x -> x.numbers(3, sort, 1));
            EDGE.keeps("38 numbers(4, " + sort + ", 1)", Edge::worked, -2, x -> x.numbers(4, sort, 1));
        }
        for (int row = 0; row < 4; row++) {
            for (int sort = 0; sort < 4; sort++) {
                CHECK.due("38 numbers(" + row + ", " + sort + ", 1)", Edge.worked().numbers(row, sort, 1), 0);
            }
        }
    }

    /** numbers: "-3, and the ROW stays: n is below 0 or above 40". */
    private static void howManyNumbers() {
        for (int n : new int[] {-1, 41, Integer.MIN_VALUE, Integer.MAX_VALUE}) {
            for (int row = 0; row < 4; row++) {
                int some = row;
                EDGE.keeps("38 numbers(" + row + ", 0, " + n + ")", Edge::worked, -3, x -> x.numbers(some, 0, n));
            }
        }
    }

    /** numbers tells -2 ahead of -3. */
    private static void numbersCodesInOrder() {
        for (int n : new int[] {-1, 41}) {
            EDGE.keeps("38 -2 (ROW) ahead of -3", Edge::worked, -2, x -> x.numbers(4, 0, n));
            EDGE.keeps("38 -2 (ROW) ahead of -3", Edge::worked, -2, x -> x.numbers(-1, 3, n));
            EDGE.keeps("38 -2 (sort) ahead of -3", Edge::worked, -2, x -> x.numbers(0, 4, n));
            EDGE.keeps("38 -2 (sort) ahead of -3", Edge::worked, -2, x -> x.numbers(3, -1, n));
        }
    }

    /** "of 8 bits (sort 0), 16 (1), 32 (2), 64 (3)"; write: "cut to its sort: as it is there". */
    private static void cutToSort() {
        int[] bits = {8, 16, 32, 64};
        for (int sort = 0; sort < 4; sort++) {
            BlownNext x = Edge.two();
            x.numbers(1, sort, 2);
            long most = (1L << bits[sort] - 1) - 1;
            CHECK.due("39 most of sort " + sort, x.write(1, 0, most), most);
            CHECK.due("39 least of sort " + sort, x.write(1, 0, -most - 1), -most - 1);
            CHECK.due("39 most and 1 of sort " + sort, x.write(1, 0, most + 1), -most - 1);
            CHECK.due("39 least less 1 of sort " + sort, x.write(1, 0, -most - 2), most);
            CHECK.due("39 0 of sort " + sort, x.write(1, 0, 0), 0);
            CHECK.due("39 -1 of sort " + sort, x.write(1, 0, -1), -1);
            CHECK.due("39 all bits of sort " + sort, x.write(1, 0, sort == 3 ? -1 : (1L << bits[sort]) - 1), -1);
            if (sort < 3) {
                CHECK.due("39 one bit too high for sort " + sort, x.write(1, 1, 1L << bits[sort]), 0);
                CHECK.due("39 and 1", x.write(1, 1, (1L << bits[sort]) + 1), 1);
            }
            CHECK.due("39 the highest of 64, sort " + sort, x.write(1, 1, Long.MIN_VALUE), sort == 3 ? Long.MIN_VALUE : 0);
        }
    }

    /** write: "-7: it has no such number". */
    private static void places() {
        for (int i : new int[] {-1, 3, 4, 40, Integer.MIN_VALUE, Integer.MAX_VALUE}) {
            EDGE.keeps("39 write(0, " + i + ", 9) of three", Edge::worked, -7, x -> x.write(0, i, 9));
        }
        for (int i : new int[] {-1, 40, 41, Integer.MIN_VALUE, Integer.MAX_VALUE}) {
            EDGE.keeps("39 write(2, " + i + ", 9) of forty", Edge::worked, -7, x -> x.write(2, i, 9));
        }
        for (int i : new int[] {-1, 0, 1}) {
            EDGE.keeps("39 write(0, " + i + ", 9) of none", () -> Edge.many(0), -7, x -> x.write(0, i, 9));
        }
        EDGE.changes("39 the first of three", Edge::worked, 9, x -> x.write(0, 0, 9));
        EDGE.changes("39 the last of three", Edge::worked, 9, x -> x.write(0, 2, 9));
        EDGE.changes("39 the last of forty", Edge::worked, 0, x -> x.write(2, 39, 0));
        EDGE.keeps("39 as it was", Edge::worked, 8, x -> x.write(2, 39, 8));
    }

    /** write: "-2: no such ROW; -6; -7", in this order. */
    private static void writesCodes() {
        for (int row : NO_ROWS) {
            for (int i : new int[] {-1, 0, 40}) {
                EDGE.keeps("39 write(" + row + ", " + i + ", 1)", Edge::worked, -2, x -> x.write(row, i, 1));
            }
        }
        for (int i : new int[] {-1, 0, 39, 40}) {
            EDGE.keeps("39 -6 ahead of -7: write(3, " + i + ", 1)", Edge::worked, -6, x -> x.write(3, i, 1));
        }
    }

    /** copy: "-7: it has not so many places (nothing comes)". */
    private static void copiesPlaces() {
        for (int n = 1; n <= 10; n++) {
            int smiths = n;
            EDGE.changes("40 just as many places as " + n, () -> Edge.many(smiths), n, x -> x.copy(0));
            EDGE.keeps("40 one too few for " + n, () -> Edge.many(smiths), -7, x -> x.copy(1));
            EDGE.changes("40 one more than " + n, () -> Edge.many(smiths), n, x -> x.copy(2));
        }
        EDGE.keeps("40 no SMITHS, no places", () -> Edge.many(0), 0, x -> x.copy(0));
        EDGE.keeps("40 no SMITHS, one place", () -> Edge.many(0), 0, x -> x.copy(2));
        EDGE.changes("40 forty places", Edge::worked, 3, x -> x.copy(2));
        BlownNext x = Check.streetOf("smith 0 heat 1;smith 0 heat 0;");
        Check.row(x, 0, 0, 9, 9, 2, 3);
        CHECK.due("40 from its first place on", x.copy(0), 2);
        CHECK.due("40 the others stay", x.judge(0, 0), 1);
        CHECK.due("40 the others stay", x.judge(0, 1), 2);
    }

    /** copy: "-2: the ROW; -6". */
    private static void copiesCodes() {
        for (int row : NO_ROWS) {
            EDGE.keeps("40 copy(" + row + ")", Edge::worked, -2, x -> x.copy(row));
        }
        EDGE.keeps("40 missing", Edge::worked, -6, x -> x.copy(3));
        EDGE.keeps("40 missing, no SMITHS", Edge::fresh, -6, x -> x.copy(0));
    }

    /** HEATS that 8 bits don't hold are cut, as by write(). */
    private static void copiesCut() {
        int[] heats = {0, 127, 128, 200};
        int[] seen = {1, 1, 0, 0};
        for (int k = 0; k < 4; k++) {
            for (int sort = 0; sort < 4; sort++) {
                BlownNext x = Check.streetOf("smith 60 cool 0 heat " + heats[k] + " low 0 high 200;");
                x.numbers(0, sort, 1);
                CHECK.due("40 copy", x.copy(0), 1);
                int sets = heats[k] == 200 ? 2 : 1;
                CHECK.due("28 " + heats[k] + " of sort " + sort, x.seen(0), sort == 0 ? seen[k] : sets);
            }
        }
    }

    /** image, restore: "-2". */
    private static void imagesNumbers() {
        for (int i : NO_IMAGES) {
            EDGE.keeps("41 image(" + i + ")", Edge::worked, -2, x -> x.image(i));
            EDGE.keeps("42 restore(" + i + ")", Edge::worked, -2, x -> x.restore(i));
            EDGE.keeps("42 -2 ahead of -5: restore(" + i + ")", Edge::fresh, -2, x -> x.restore(i));
        }
        EDGE.changes("41 image(0)", Edge::worked, 0, x -> x.image(0));
        EDGE.changes("41 image(1)", Edge::worked, 0, x -> x.image(1));
    }

    /** "(none at first)"; restore: "-5: none was made". */
    private static void imagesNoneAtFirst() {
        for (int i = 0; i < 2; i++) {
            int some = i;
            EDGE.keeps("42 restore(" + i + ")", Edge::fresh, -5, x -> x.restore(some));
            EDGE.keeps("42 restore(" + i + ")", Edge::two, -5, x -> x.restore(some));
            BlownNext x = Edge.two();
            x.image(i);
            CHECK.due("42 made", x.restore(i), 0);
            CHECK.due("42 the other one was not", x.restore(1 - i), -5);
        }
        EDGE.keeps("42 restore(1)", Edge::worked, -5, x -> x.restore(1));
        EDGE.changes("42 restore(0)", Edge::worked, 0, x -> x.restore(0));
    }

    /** "IMAGES 0 to 1": each for itself, as often as one likes, and made anew. */
    private static void imagesAreTwo() {
        BlownNext x = Edge.two();
        x.image(0);
        x.minute(0, 3);
        x.image(1);
        x.minute(0, 3);
        for (int k = 0; k < 2; k++) {
            CHECK.due("42 restore(0)", x.restore(0), 0);
            CHECK.due("43 MINUTE 0", x.count(1), 0);
            CHECK.due("5 no strokes", x.smith(0, 6), 0);
            x.minute(3, 0);
            CHECK.due("42 restore(1)", x.restore(1), 0);
            CHECK.due("43 MINUTE 1", x.count(1), 1);
            CHECK.due("5 one stroke", x.smith(0, 6), 1);
            x.live(5);
        }
        x.image(0);
        x.street(0);
        CHECK.due("42 made anew", x.restore(0), 0);
        CHECK.due("43 MINUTE 6", x.count(1), 6);
        x = Edge.fresh();
        x.image(0);
        Check.tell(x, "smith 1;burnt 3;");
        CHECK.due("42 without SMITHS", x.restore(0), 0);
        CHECK.due("43 none", x.count(0), 0);
        CHECK.due("43 no LINES", x.count(7), 0);
        CHECK.due("43 what is lost", x.count(8), 20);
        x = Edge.last();
        x.image(1);
        x.street(0);
        x.restore(1);
        CHECK.due("43 MINUTE 9999", x.count(1), 9999);
        CHECK.due("10 which can't be", x.minute(0, 0), -5);
    }

    /** "THE STREET and all as it stands". */
    private static void whatAnImageHas() {
        BlownNext x = Edge.worked();
        long[] were = Edge.street(x);
        x.image(1);
        x.rope(0, 2);
        x.arm(1, 9);
        x.piece(1, 4);
        x.live(30);
        x.street(20);
        x.minute(0, 0);
        CHECK.due("42 restore(1)", x.restore(1), 0);
        long[] are = Edge.street(x);
        for (int k = 0; k < were.length; k++) {
            CHECK.due("42 as it was, answer " + k, are[k], were[k]);
        }
    }

    /** Strokes and how often BURNT, of each PIECE and in all, go back to what they were. */
    private static void imagesOfBurntOnes() {
        BlownNext x = Check.streetOf("smith 60 cool 0 heat 90 piece 4;burnt 1;");
        x.image(0);
        x.minute(0, 1);
        x.minute(0, 1);
        x.minute(1, 0);
        x.image(1);
        x.minute(0, 0);
        int[][] due = {{0, 0, 0}, {1, 1, 1}, {0, 2, 2}};
        for (int k = 2; k >= 0; k--) {
            CHECK.due("42 strokes, " + k, x.smith(0, 6), due[k][0]);
            CHECK.due("42 his PIECE BURNT, " + k, x.smith(0, 7), due[k][1]);
            CHECK.due("42 BURNT in all, " + k, x.count(3), due[k][2]);
            x.restore(k > 0 ? k - 1 : 0);
        }
        x.restore(1);
        CHECK.due("42 his PIECE BURNT, again", x.smith(0, 7), 1);
        CHECK.due("42 BURNT in all, again", x.count(3), 1);
    }

    /** THE TAPE, the ROWS and the FAULT are not of THE STREET: they stay as they are now. */
    private static void whatAnImageHasNot() {
        BlownNext x = Edge.worked();
        x.image(1);
        CHECK.due("3 read", x.street(20), 1);
        Check.feed(x, "burnt 2;");
        Check.feed(x, "burnt 2;");
        x.numbers(0, 0, 1);
        x.restore(1);
        CHECK.due("43 THE TAPE", x.count(6), 40);
        CHECK.due("4 the FAULT", x.fault(0), 0);
        CHECK.due("39 the ROW", x.write(0, 1, 1), -7);
    }

    /** count: "0 SMITHS .. 8"; "NONE for others". */
    private static void countsWhat() {
        long[] due = {3, 3, 1, 1, 6, 152 + 34 + 30, 20, 5, 1};
        for (int what = 0; what < 9; what++) {
            int asked = what;
            EDGE.keeps("43 count(" + what + ")", Edge::worked, due[what], x -> x.count(asked));
        }
        for (int what : new int[] {-1, 9, 10, Integer.MIN_VALUE, Integer.MAX_VALUE}) {
            EDGE.keeps("43 count(" + what + ")", Edge::worked, -1, x -> x.count(what));
        }
    }

    /** count 2, 4, 5: all and none, LOW and HIGH. */
    private static void countsAtBounds() {
        String[] fires = {"heat 19;", "heat 20;", "heat 100;", "heat 101;", "heat 0 low 0;", "heat 200 low 0 high 200;"};
        int[] due = {0, 1, 1, 0, 1, 1};
        for (int k = 0; k < 6; k++) {
            CHECK.due("43 LOW to HIGH: " + fires[k], Check.streetOf("smith 0 " + fires[k]).count(4), due[k]);
        }
        BlownNext x = Check.streetOf("smith 0 heat 200 low 0 high 200 piece 0;".repeat(10));
        CHECK.due("43 ten SMITHS", x.count(0), 10);
        CHECK.due("43 all DONE", x.count(2), 10);
        CHECK.due("43 all warm", x.count(4), 1023);
        CHECK.due("43 HEATS together", x.count(5), 2000);
        CHECK.due("43 ten LINES", x.count(7), 10);
        x = Check.streetOf("smith 0 piece 1;".repeat(10));
        CHECK.due("43 none DONE", x.count(2), 0);
        CHECK.due("43 none warm", x.count(4), 0);
        CHECK.due("43 no HEAT", x.count(5), 0);
    }
}
