/** Promises 38 to 43: rows of numbers, images, counts. */
public final class RowsTest {
    private static final Check CHECK = new Check("RowsTest");

    public static void main(String[] args) {
        rows();
        sorts();
        copies();
        images();
        counts();
        countsOfOldPieces();
        CHECK.end();
    }

    private static void rows() {
        BlownNext x = new BlownNext();
        for (int row = 0; row < 4; row++) {
            CHECK.due("39 missing " + row, x.write(row, 0, 1), -6);
            CHECK.due("38 numbers " + row, x.numbers(row, row, 40), 0);
            CHECK.due("39 write " + row, x.write(row, 39, 5), 5);
            CHECK.due("39 write " + row, x.write(row, 40, 5), -7);
            CHECK.due("39 write " + row, x.write(row, -1, 5), -7);
        }
        CHECK.due("38 row 4", x.numbers(4, 0, 41), -2);
        CHECK.due("38 row -1", x.numbers(-1, 0, 1), -2);
        CHECK.due("38 sort 4", x.numbers(0, 4, 41), -2);
        CHECK.due("38 sort -1", x.numbers(0, -1, 1), -2);
        CHECK.due("38 n 41", x.numbers(0, 0, 41), -3);
        CHECK.due("38 n -1", x.numbers(0, 0, -1), -3);
        CHECK.due("38 the row stays", x.write(0, 39, 6), 6);
        CHECK.due("39 row 4", x.write(4, 0, 1), -2);
        CHECK.due("39 row -1", x.write(-1, 0, 1), -2);
        CHECK.due("38 no numbers", x.numbers(0, 0, 0), 0);
        CHECK.due("39 none there", x.write(0, 0, 1), -7);
        Check.row(x, 0, 0, 1, 1);
        x.numbers(0, 0, 2);
        CHECK.due("38 all are 0", x.judge(0, 0), -1);
        CHECK.due("12 two zeros", x.perform(0), 1);
    }

    private static void sorts() {
        BlownNext x = new BlownNext();
        long v = 0x123456789abcdef0L;
        long[] due = {(byte) 0xf0, (short) 0xdef0, 0x9abcdef0, v};
        long[] edge = {-128, -32768, Integer.MIN_VALUE, Long.MIN_VALUE};
        for (int sort = 0; sort < 4; sort++) {
            x.numbers(0, sort, 3);
            CHECK.due("39 sort " + sort, x.write(0, 0, v), due[sort]);
            CHECK.due("39 -1 of sort " + sort, x.write(0, 1, -1), -1);
            CHECK.due("39 least of sort " + sort, x.write(0, 2, edge[sort]), edge[sort]);
            CHECK.due("39 most of sort " + sort, x.write(0, 2, edge[sort] - 1), -(edge[sort] + 1));
        }
    }

    private static void copies() {
        BlownNext x = Check.streetOf("smith 1 heat 200 low 0 high 200;smith 1 heat 100;");
        CHECK.due("40 missing", x.copy(0), -6);
        CHECK.due("40 row 4", x.copy(4), -2);
        CHECK.due("40 row -1", x.copy(-1), -2);
        Check.row(x, 0, 1, 7);
        CHECK.due("40 too few places", x.copy(0), -7);
        Check.row(x, 0, 1, 7, 7, 7);
        CHECK.due("40 copy", x.copy(0), 2);
        CHECK.due("28 three numbers", x.seen(0), -7);
        Check.row(x, 0, 1, 7, 7);
        // behind a minute of rest heats are as they come
        x.minute(0, 0);
        CHECK.due("40 copy", x.copy(0), 2);
        x.image(0);
        Check.tell(x, "smith 1 heat 200 low 0 high 200;smith 1 heat 100;");
        CHECK.due("28 as it was copied", x.seen(0), 1);
        CHECK.due("29 none pulled", x.sure(0, false), 3);
        Check.row(x, 1, 0, 7, 7);
        CHECK.due("40 copy into 8 bits", x.copy(1), 2);
        // 200 is cut to -56, as a set it has others than smiths; 100 too
        CHECK.due("11 cut", x.judge(1, 1), 1);
        x = Check.streetOf("smith 1 heat 3;smith 1 heat 0;");
        Check.row(x, 0, 0, 9, 9, 0, 5);
        x.copy(0);
        CHECK.due("40 first places", x.judge(0, 0), 1);
        x = new BlownNext();
        Check.row(x, 0, 0);
        CHECK.due("40 no smiths", x.copy(0), 0);
    }

    private static void images() {
        BlownNext x = new BlownNext();
        CHECK.due("42 none was made", x.restore(0), -5);
        CHECK.due("42 none was made", x.restore(1), -5);
        CHECK.due("42 restore(2)", x.restore(2), -2);
        CHECK.due("42 restore(-1)", x.restore(-1), -2);
        CHECK.due("41 image(2)", x.image(2), -2);
        CHECK.due("41 image(-1)", x.image(-1), -2);
        CHECK.due("41 image(1)", x.image(1), 0);
        Check.tell(x, "smith 30 heat 90;smith 7 heat 40;burnt 2;blows 0 0;");
        x.minute(0, 3);
        x.minute(1, 0);
        CHECK.due("41 image(0)", x.image(0), 0);
        int[] were = all(x);
        x.rope(0, 1);
        x.arm(0, 3);
        x.piece(0, 9);
        x.piece(1, 0);
        x.live(20);
        Check.tell(x, "smith 1;burnt 0;burnt 6;");
        CHECK.due("42 restore(1)", x.restore(1), 0);
        CHECK.due("42 no smiths", x.count(0), 0);
        CHECK.due("42 no lines", x.count(7), 0);
        CHECK.due("42 loss", x.count(8), 20);
        CHECK.due("42 restore(0)", x.restore(0), 0);
        int[] are = all(x);
        for (int k = 0; k < were.length; k++) {
            CHECK.due("42 as it was, " + k, are[k], were[k]);
        }
        x.live(5);
        CHECK.due("42 restore(0) again", x.restore(0), 0);
        CHECK.due("42 minute", x.count(1), 2);
        x.minute(0, 0);
        CHECK.due("41 image(0) anew", x.image(0), 0);
        x.minute(0, 0);
        x.restore(0);
        CHECK.due("42 the later one", x.count(1), 3);
    }

    private static int[] all(BlownNext x) {
        int[] is = new int[29];
        for (int k = 0; k < 29; k++) {
            is[k] = k < 20 ? x.smith(k / 10, k % 10) : x.count(k - 20);
        }
        return is;
    }

    private static void counts() {
        BlownNext x = Check.streetOf("smith 60 heat 95;smith 60 heat 101 piece 0;smith 60 heat 19;smith 60 heat 20;burnt 5;"
            + "blows 0 0;blows 1 1;blows 2 2;blows 3 3;");
        CHECK.due("43 smiths", x.count(0), 4);
        CHECK.due("43 workable", x.count(4), 9);
        CHECK.due("43 heats", x.count(5), 235);
        CHECK.due("43 done", x.count(2), 1);
        CHECK.due("43 lines", x.count(7), 9);
        CHECK.due("43 loss", x.count(8), 5);
        CHECK.due("43 what 9", x.count(9), -1);
        CHECK.due("43 what -1", x.count(-1), -1);
        x.minute(0, 9);
        x.minute(9, 0);
        // 95 90 145: burnt; 20 15 70
        CHECK.due("43 burnt", x.count(3), 1);
        x.minute(0, 8);
        x.minute(8, 0);
        x.minute(0, 0);
        // 70 65 120: burnt, and again at 115, where no strokes are left
        CHECK.due("43 burnt", x.count(3), 2);
        CHECK.due("43 minute", x.count(1), 5);
        Check.feed(x, "smith 1;");
        CHECK.due("43 tape", x.count(6), 20);
    }

    /** What was BURNT stays so when new PIECES are begun, but not with a new street, nor behind an image. */
    private static void countsOfOldPieces() {
        BlownNext x = Check.streetOf("smith 60 heat 95;smith 60 heat 95;burnt 1;blows 0 0;blows 1 1;");
        CHECK.due("41 image(0)", x.image(0), 0);
        x.minute(0, 3);
        x.minute(3, 0);
        CHECK.due("43 both burnt", x.count(3), 2);
        CHECK.due("9 piece(0, 0)", x.piece(0, 0), 0);
        CHECK.due("43 both were burnt", x.count(3), 2);
        CHECK.due("5 the new one was not", x.smith(0, 7), 0);
        CHECK.due("5 the other one was", x.smith(1, 7), 1);
        CHECK.due("9 piece(0, 5)", x.piece(0, 5), 0);
        // 145 to 100, where it can be struck
        x.live(9);
        CHECK.due("5 heat", x.smith(0, 2), 100);
        Check.row(x, 0, 0, 0, 1, 1, 0);
        CHECK.due("11 burnt in these minutes alone", x.judge(0, 4), 1);
        CHECK.due("43 as if", x.count(3), 2);
        CHECK.due("41 image(1)", x.image(1), 0);
        CHECK.due("12 perform", x.perform(0), 2);
        CHECK.due("43 a third time", x.count(3), 3);
        CHECK.due("5 the new one once", x.smith(0, 7), 1);
        CHECK.due("9 refused", x.piece(0, 21), -3);
        CHECK.due("5 still once", x.smith(0, 7), 1);
        x.restore(1);
        CHECK.due("42 as it was", x.count(3), 2);
        x.restore(0);
        CHECK.due("42 as it was at first", x.count(3), 0);
        x.restore(1);
        CHECK.due("3 a fault", Check.tell(x, "smith 61;"), -33);
        CHECK.due("3 all stays", x.count(3), 2);
        CHECK.due("3 a new street", Check.tell(x, "smith 60;"), 1);
        CHECK.due("3 nothing was burnt in it", x.count(3), 0);
    }
}
