import java.util.Arrays;

/** Boundary cases of promises 20 to 26: lengths, steps, bits, what holds just yet, codes and their order. */
public final class RhythmsEdgesTest {
    private static final Check CHECK = new Check("RhythmsEdgesTest");
    private static final Edge EDGE = new Edge(CHECK);
    private static final int[] NO_ROWS = {-1, 4, Integer.MIN_VALUE, Integer.MAX_VALUE};
    private static final int[] NO_LENGTHS = {0, 13, -1, Integer.MIN_VALUE, Integer.MAX_VALUE};
    private static final int[] NO_WHATS = {-1, 2, 10, Integer.MIN_VALUE, Integer.MAX_VALUE};

    public static void main(String[] args) {
        holdBetweenLowAndHigh();
        holdBehindEachMinute();
        holdForEverAtTheEnds();
        brokenByTheLeast();
        bitsModuloLength();
        holdsLength();
        holdsNumbers();
        holdsCodes();
        holdsCodesInOrder();
        evenJust();
        evenUnbounded();
        evenLengths();
        evensCodes();
        wavesLengths();
        wavesSteps();
        wavesFirst();
        wavesWrap();
        bestWaves();
        bestWavesLengths();
        bestRoundsNumbers();
        bestRoundsSmiths();
        bestRoundsFirst();
        bestRoundsNone();
        bestRoundsCodes();
        bestRoundsCodesInOrder();
        paysAtBounds();
        peacesLeastSet();
        peacesCodes();
        selfishNumbers();
        noSmiths();
        lastMinute();
        CHECK.end();
    }

    private static BlownNext rhythm(String street, int sort, long... numbers) {
        BlownNext x = Check.streetOf(street);
        Check.row(x, 0, sort, numbers);
        return x;
    }

    private static void held(String street, int length, int behind, int by, long... numbers) {
        BlownNext x = rhythm(street, 1, numbers);
        CHECK.due("20 " + street + " behind", x.holds(0, length, 0), behind);
        CHECK.due("20 " + street + " by whom", x.holds(0, length, 1), by);
    }

    /** "They HOLD, as long as each HEAT is LOW to HIGH". */
    private static void holdBetweenLowAndHigh() {
        String fire = "smith 0 cool 0 heat 50 ";
        held(fire + "low 49 high 50;", 1, -1, -1, 0);
        held(fire + "low 50 high 50;", 1, -1, -1, 0);
        held(fire + "low 50 high 51;", 1, -1, -1, 0);
        held(fire + "low 51 high 60;", 1, 1, 0, 0);
        held(fire + "low 40 high 49;", 1, 1, 0, 0);
        // down by 5 and up by 5: 45 and 50
        held("smith 10 heat 50 low 45 high 50;", 2, -1, -1, 2);
        held("smith 10 heat 50 low 46 high 50;", 2, 1, 0, 2);
        held("smith 10 heat 50 low 45 high 49;", 2, 2, 0, 2);
        held("smith 10 heat 50 low 50 high 55;", 2, -1, -1, 1);
        held("smith 10 heat 50 low 50 high 54;", 2, 1, 0, 1);
        held("smith 10 heat 50 low 51 high 55;", 2, 2, 0, 1);
    }

    /** "behind each MINUTE": the HEAT now may be as it is. */
    private static void holdBehindEachMinute() {
        held("smith 10 cool 0 heat 45 low 50 high 200;", 1, -1, -1, 1);
        held("smith 10 cool 0 heat 39 low 50 high 200;", 1, 1, 0, 1);
        held("smith 0 cool 5 heat 105 low 0 high 100;", 1, -1, -1, 1);
        held("smith 0 cool 5 heat 106 low 0 high 100;", 1, 1, 0, 1);
        held("smith 10 heat 45 low 50 high 50;", 2, 2, 0, 1);
    }

    /** "for ever": at 0 and at 200, where fires stay. */
    private static void holdForEverAtTheEnds() {
        held("smith 0 cool 30 heat 200 low 0 high 200;", 12, -1, -1, 0);
        held("smith 0 cool 30 heat 200 low 1 high 200;", 12, 7, 0, 0);
        held("smith 0 cool 1 heat 200 low 0 high 200;", 1, -1, -1, 0);
        held("smith 0 cool 1 heat 200 low 1 high 200;", 1, 200, 0, 0);
        held("smith 60 cool 0 heat 0 low 0 high 200;", 12, -1, -1, -1);
        held("smith 60 cool 0 heat 0 low 0 high 199;", 12, 4, 0, -1);
        held("smith 1 cool 0 heat 0 low 0 high 200;", 1, -1, -1, 1);
        held("smith 1 cool 0 heat 0 low 0 high 199;", 1, 200, 0, 1);
        // 1 in 12 MINUTES, from 0 on: 200 comes in round 199, at its first MINUTE
        held("smith 1 cool 0 heat 0 low 0 high 199;", 12, 12 * 199 + 1, 0, 1);
        held("smith 1 cool 0 heat 0 low 0 high 199;", 12, 12 * 200, 0, 1 << 11);
    }

    /** holds what 1: "the least SMITH whose HEAT it is"; the first MINUTE ahead of the least SMITH. */
    private static void brokenByTheLeast() {
        String wide = "smith 0 cool 0 heat 50;";
        String falls = "smith 0 cool 5 heat 50 low 41;";
        String sooner = "smith 0 cool 5 heat 50 low 46;";
        held(falls + falls, 1, 2, 0, 0, 0);
        held(wide + falls + falls, 1, 2, 1, 0, 0, 0);
        held(falls + sooner, 1, 1, 1, 0, 0);
        held(sooner + falls, 1, 1, 0, 0, 0);
        held(wide.repeat(9) + falls, 1, 2, 9, 0, 0, 0, 0, 0, 0, 0, 0, 0, 0);
        held(wide.repeat(10), 1, -1, -1, 0, 0, 0, 0, 0, 0, 0, 0, 0, 0);
    }

    /** "when bit (t modulo LENGTH) of number i is set". */
    private static void bitsModuloLength() {
        String fire = "smith 60 heat 100 low ";
        // falls by 5 to 45, and is blown in the 12th MINUTE of each round
        held(fire + "45 high 200;", 12, -1, -1, 1 << 11);
        held(fire + "46 high 200;", 12, 11, 0, 1 << 11);
        held(fire + "46 high 200;", 12, 11, 0, 1 << 12);
        held(fire + "40 high 200;", 12, 13, 0, 1 << 12);
        held(fire + "45 high 200;", 11, 12, 0, 1 << 11);
        // bits from LENGTH on are never asked for
        held("smith 5 heat 50 low 50 high 50;", 1, -1, -1, 1);
        held("smith 5 heat 50 low 50 high 50;", 1, 1, 0, 2);
        held("smith 5 heat 50 low 50 high 50;", 1, -1, -1, 3);
        held("smith 5 heat 50 low 50 high 50;", 2, -1, -1, 3);
        held("smith 5 heat 50 low 50 high 50;", 3, 3, 0, 3);
        BlownNext x = rhythm("smith 5 heat 50 low 50 high 50;", 3, 0xfffL);
        CHECK.due("20 twelve bits", x.holds(0, 12, 0), -1);
        x.write(0, 0, 0x7ffL);
        CHECK.due("20 eleven bits", x.holds(0, 12, 0), 12);
        x.write(0, 0, -1L << 12);
        CHECK.due("20 bits above", x.holds(0, 12, 0), 1);
        x.write(0, 0, Long.MIN_VALUE);
        CHECK.due("20 the highest bit", x.holds(0, 12, 0), 1);
        x.write(0, 0, -1L);
        CHECK.due("20 all bits", x.holds(0, 12, 0), -1);
    }

    /** "a LENGTH (1 to 12)"; holds "-3: LENGTH". */
    private static void holdsLength() {
        for (int length : NO_LENGTHS) {
            for (int what = 0; what < 2; what++) {
                int asked = what;
                EDGE.keeps("20 holds(0, " + length + ", " + what + ")", Edge::worked, -3, x -> x.holds(0, length, asked));
            }
        }
        for (int length = 1; length <= 12; length++) {
            int some = length;
            // fire 0 is at 152, and HIGH is 100
            EDGE.keeps("20 holds(0, " + length + ", 0)", Edge::worked, 1, x -> x.holds(0, some, 0));
            EDGE.keeps("20 holds(0, " + length + ", 1)", Edge::worked, 0, x -> x.holds(0, some, 1));
        }
    }

    /** "a ROW of as many numbers as SMITHS"; "-7: it has not as many numbers as there are SMITHS". */
    private static void holdsNumbers() {
        for (int n = 0; n <= 10; n++) {
            int smiths = n;
            EDGE.keeps("20 as many as " + n, () -> Edge.many(smiths), n == 0 ? -1 : 7, x -> x.holds(0, 1, 0));
            EDGE.keeps("20 one less than " + n, () -> Edge.many(smiths), n == 0 ? -1 : -7, x -> x.holds(1, 1, 0));
            EDGE.keeps("20 one more than " + n, () -> Edge.many(smiths), -7, x -> x.holds(2, 1, 0));
            EDGE.keeps("21 as many as " + n, () -> Edge.many(smiths), 0, x -> x.even(0, 1));
            EDGE.keeps("21 one less than " + n, () -> Edge.many(smiths), n == 0 ? 0 : -7, x -> x.even(1, 1));
            EDGE.keeps("21 one more than " + n, () -> Edge.many(smiths), -7, x -> x.even(2, 1));
        }
    }

    /** holds: "-2: the ROW, what; -6". */
    private static void holdsCodes() {
        for (int row : NO_ROWS) {
            EDGE.keeps("20 holds(" + row + ", 1, 0)", Edge::worked, -2, x -> x.holds(row, 1, 0));
            EDGE.keeps("20 holds(" + row + ", 1, 1)", Edge::worked, -2, x -> x.holds(row, 1, 1));
        }
        for (int what : NO_WHATS) {
            EDGE.keeps("20 holds(0, 1, " + what + ")", Edge::worked, -2, x -> x.holds(0, 1, what));
        }
        EDGE.keeps("20 missing", Edge::worked, -6, x -> x.holds(3, 1, 0));
        EDGE.keeps("20 missing", Edge::worked, -6, x -> x.holds(3, 1, 1));
        EDGE.keeps("20 five numbers for three", Edge::worked, -7, x -> x.holds(1, 1, 0));
        EDGE.keeps("20 forty numbers for three", Edge::worked, -7, x -> x.holds(2, 1, 1));
    }

    /** holds tells -2, -6, -7, -3. */
    private static void holdsCodesInOrder() {
        for (int row : NO_ROWS) {
            EDGE.keeps("20 -2 (ROW) ahead of -3", Edge::worked, -2, x -> x.holds(row, 13, 0));
            EDGE.keeps("20 -2 (ROW, what) ahead of -3", Edge::worked, -2, x -> x.holds(row, 0, 2));
            EDGE.keeps("21 -2 ahead of -3", Edge::worked, -2, x -> x.even(row, 13));
        }
        for (int what : NO_WHATS) {
            EDGE.keeps("20 -2 (what) ahead of -6", Edge::worked, -2, x -> x.holds(3, 1, what));
            EDGE.keeps("20 -2 (what) ahead of -7", Edge::worked, -2, x -> x.holds(1, 1, what));
            EDGE.keeps("20 -2 (what) ahead of -3", Edge::worked, -2, x -> x.holds(0, 0, what));
            EDGE.keeps("20 -2 (what) ahead of -6 and -3", Edge::worked, -2, x -> x.holds(3, 13, what));
        }
        for (int length : NO_LENGTHS) {
            EDGE.keeps("20 -6 ahead of -3", Edge::worked, -6, x -> x.holds(3, length, 0));
            EDGE.keeps("20 -7 ahead of -3", Edge::worked, -7, x -> x.holds(1, length, 1));
            EDGE.keeps("21 -6 ahead of -3", Edge::worked, -6, x -> x.even(3, length));
            EDGE.keeps("21 -7 ahead of -3", Edge::worked, -7, x -> x.even(1, length));
        }
    }

    private static void even(String street, int length, int due, long... numbers) {
        CHECK.due("21 " + street + " of " + length, rhythm(street, 1, numbers).even(0, length), due);
    }

    /** "as much comes as goes". */
    private static void evenJust() {
        even("smith 9 cool 5;", 2, 0, 1);
        even("smith 10 cool 5;", 2, 1, 1);
        even("smith 11 cool 5;", 2, 0, 1);
        even("smith 60 cool 5;", 12, 1, 1);
        even("smith 60 cool 5;", 12, 1, 1 << 11);
        even("smith 59 cool 5;", 12, 0, 1);
        even("smith 30 cool 30;", 12, 1, 4095);
        even("smith 30 cool 30;", 12, 0, 4094);
        even("smith 0 cool 0;", 1, 1, 0);
        even("smith 0 cool 0;", 1, 1, 1);
        even("smith 0 cool 1;", 1, 0, 1);
        even("smith 5;".repeat(10), 1, 1023, 1, 1, 1, 1, 1, 1, 1, 1, 1, 1);
        even("smith 5;".repeat(10), 1, 1022, 1, 1, 1, 1, 1, 1, 1, 1, 1, 0);
        // who pulls more than one, and a fire that nobody blows
        even("smith 2;smith 3;blows 1 1;", 1, 2, 1, 1);
    }

    /** "(as if none were below 0 or above 200)". */
    private static void evenUnbounded() {
        even("smith 10 heat 0;", 2, 1, 2);
        even("smith 10 heat 200;", 2, 1, 1);
        even("smith 60 cool 30 heat 200;", 12, 1, 63);
        even("smith 60 cool 30 heat 0;", 12, 1, 4032);
    }

    /** even: "-3" for LENGTH, and all lengths from 1 to 12. */
    private static void evenLengths() {
        for (int length : NO_LENGTHS) {
            EDGE.keeps("21 even(0, " + length + ")", Edge::worked, -3, x -> x.even(0, length));
        }
        for (int length = 1; length <= 12; length++) {
            even("smith 5;", length, 1, (1 << length) - 1);
            even("smith 5;", length, 0, (1 << length - 1) - 1);
            even("smith 5;", length, 1, -1);
        }
    }

    /** even: "-2; -6; -7". */
    private static void evensCodes() {
        for (int row : NO_ROWS) {
            EDGE.keeps("21 even(" + row + ", 1)", Edge::worked, -2, x -> x.even(row, 1));
        }
        EDGE.keeps("21 missing", Edge::worked, -6, x -> x.even(3, 1));
        EDGE.keeps("21 five numbers for three", Edge::worked, -7, x -> x.even(1, 12));
    }

    /** wave: "-3: LENGTH". */
    private static void wavesLengths() {
        for (int length : NO_LENGTHS) {
            EDGE.keeps("22 wave(" + length + ", 0)", Edge::worked, -3, x -> x.wave(length, 0));
        }
        EDGE.keeps("22 wave(-1, -2)", Edge::worked, -3, x -> x.wave(-1, -2));
        for (int length = 1; length <= 12; length++) {
            int some = length;
            EDGE.keeps("22 wave(" + length + ", 0)", Edge::worked, 1, x -> x.wave(some, 0));
        }
    }

    /** "a STEP (0 to LENGTH less 1)"; wave: "-3: .. STEP". */
    private static void wavesSteps() {
        for (int length = 1; length <= 12; length++) {
            int some = length;
            EDGE.keeps("22 the last STEP of " + length, Edge::worked, 1, x -> x.wave(some, some - 1));
            EDGE.keeps("22 one too many of " + length, Edge::worked, -3, x -> x.wave(some, some));
            EDGE.keeps("22 one too few of " + length, Edge::worked, -3, x -> x.wave(some, -1));
        }
        EDGE.keeps("22 wave(12, least)", Edge::worked, -3, x -> x.wave(12, Integer.MIN_VALUE));
        EDGE.keeps("22 wave(12, most)", Edge::worked, -3, x -> x.wave(12, Integer.MAX_VALUE));
    }

    /** SMITH 0 pulls at t 0, whatever the STEP, and whatever RHYTHM was asked for before. */
    private static void wavesFirst() {
        String[] fires = {"low 100 high 155;", "low 101 high 155;", "low 100 high 154;"};
        int[] due = {-1, 12, 1};
        for (int k = 0; k < 3; k++) {
            BlownNext x = rhythm("smith 60 heat 100 " + fires[k], 1, 0);
            for (int step = 0; step < 12; step++) {
                CHECK.due("22 STEP " + step + " for SMITH 0, " + fires[k], x.wave(12, step), due[k]);
                CHECK.due("20 no pulls", x.holds(0, 12, 0), 1);
            }
        }
    }

    /** "when t less i times STEP, modulo LENGTH, is 0": of SMITH 9 and STEP 11 at t 3. */
    private static void wavesWrap() {
        String others = "smith 0 low 0 high 200;".repeat(8) + "smith 12 low 0 high 200;";
        // 49, 48, 47 and then 58
        String[] fires = {"low 47 high 58;", "low 48 high 58;", "low 47 high 57;"};
        int[] due = {-1, 3, 4};
        for (int k = 0; k < 3; k++) {
            BlownNext x = Check.streetOf("smith 0 cool 1 heat 50 " + fires[k] + others);
            CHECK.due("22 at t 3, " + fires[k], x.wave(12, 11), due[k]);
            CHECK.due("22 SMITH 9 at t 3 by STEP 3", x.wave(12, 3), due[k]);
            CHECK.due("22 SMITH 9 at t 3 by STEP 7", x.wave(12, 7), due[k]);
            CHECK.due("22 SMITH 9 at t 0", x.wave(12, 4), 1);
            // by STEP 1 he pulls at t 9: it breaks at t 3 as well, if it must
            CHECK.due("23 the least of the longest", x.bestWave(12), k == 0 ? 3 : 1);
        }
    }

    /** bestWave: "The STEP by which a WAVE .. HOLDS longest, the least". */
    private static void bestWaves() {
        // fire 0 has to be blown (by SMITH 1) in the last MINUTE of each round
        BlownNext x = Check.streetOf("smith 0 cool 1 heat 50 low 39 high 50;smith 12 low 0 high 200;");
        CHECK.due("22 STEP 11", x.wave(12, 11), -1);
        CHECK.due("22 STEP 10", x.wave(12, 10), 11);
        CHECK.due("22 STEP 0", x.wave(12, 0), 1);
        CHECK.due("23 the last STEP", x.bestWave(12), 11);
        CHECK.due("23 of one STEP", x.bestWave(1), 0);
        CHECK.due("23 all are alike", Edge.many(3).bestWave(12), 0);
        x = Check.streetOf("smith 0 cool 1 heat 50 low 39 high 49;smith 12 low 0 high 200;");
        CHECK.due("22 STEP 11 breaks at its pull", x.wave(12, 11), 12);
        CHECK.due("22 STEP 10 sooner", x.wave(12, 10), 11);
        CHECK.due("23 none for ever: the longest", x.bestWave(12), 11);
        x = Check.streetOf("smith 0 cool 1 heat 50 low 45 high 50;smith 12 low 0 high 200;");
        CHECK.due("22 STEP 5 breaks at its pull", x.wave(12, 5), 6);
        CHECK.due("22 STEP 6 breaks before", x.wave(12, 6), 6);
        CHECK.due("23 the least of the longest", x.bestWave(12), 5);
    }

    /** bestWave: "-3: LENGTH". */
    private static void bestWavesLengths() {
        for (int length : NO_LENGTHS) {
            EDGE.keeps("23 bestWave(" + length + ")", Edge::worked, -3, x -> x.bestWave(length));
        }
        for (int length = 1; length <= 12; length++) {
            int some = length;
            EDGE.keeps("23 bestWave(" + length + ")", Edge::worked, 0, x -> x.bestWave(some));
        }
    }

    private static void round(String street, int length, int pulls, int... numbers) {
        BlownNext x = Check.streetOf(street);
        CHECK.due("24 pulls of " + street + " in " + length, x.bestRound(length, 0), pulls);
        for (int i = 0; i < numbers.length; i++) {
            CHECK.due("24 number " + i + " of " + street + " in " + length, x.bestRound(length, 10 + i), numbers[i]);
        }
    }

    /** "all RHYTHMS (numbers 0 to 2 to the LENGTH less 1)"; "LENGTH (1 to 10)". */
    private static void bestRoundsNumbers() {
        for (int length = 1; length <= 10; length++) {
            round("smith 5 heat 50 low 50 high 50;", length, length, (1 << length) - 1);
            round("smith 5 cool 0 heat 50 low 50 high 50;", length, 0, 0);
            round("smith 0 cool 0 heat 50;", length, 0, 0);
        }
        // one pull of ten is enough: in the first MINUTE, or in the last, where HIGH lets it be no sooner
        round("smith 50 heat 100 low 55 high 200;", 10, 1, 1);
        round("smith 50 heat 100 low 55 high 100;", 10, 1, 512);
        round("smith 50 heat 100 low 56 high 100;", 10, -1, -1);
    }

    /** "SMITHS times LENGTH at most 10"; bestRound "-4: more than 10". */
    private static void bestRoundsSmiths() {
        String must = "smith 5 heat 50 low 50 high 50;";
        for (int n = 1; n <= 10; n++) {
            int most = 10 / n;
            int[] numbers = new int[n];
            Arrays.fill(numbers, (1 << most) - 1);
            round(must.repeat(n), most, n * most, numbers);
            if (most < 10) {
                BlownNext x = Check.streetOf(must.repeat(n));
                CHECK.due("24 one more for " + n, x.bestRound(most + 1, 0), -4);
                CHECK.due("24 one more for " + n + ", a number", x.bestRound(most + 1, 9 + n), -4);
                CHECK.due("24 ten for " + n, x.bestRound(10, 0), -4);
            }
        }
        EDGE.keeps("24 three times four", Edge::worked, -4, x -> x.bestRound(4, 0));
        EDGE.keeps("24 three times three", Edge::worked, -1, x -> x.bestRound(3, 0));
    }

    /** "those with the fewest pulls .., of these the first by SMITHS' numbers (SMITH 0's least, then 1's ..)". */
    private static void bestRoundsFirst() {
        String both = "smith 10 cool 0 heat 50;blows 0 0;blows 1 0;";
        round("smith 10 heat 50 low 45 high 55;" + both, 2, 1, 0, 1);
        round("smith 10 heat 50 low 45 high 54;" + both, 2, 1, 0, 2);
        round("smith 10 heat 50 low 44 high 54;" + both, 2, 1, 0, 2);
        round("smith 10 heat 50 low 46 high 54;" + both, 2, -1, -1, -1);
        // three of 5 in three MINUTES, one each; the last one's least number comes last
        String three = "smith 5 cool 0 heat 50;smith 5 cool 0 heat 50;blows 0 0;blows 1 0;blows 2 0;";
        round("smith 5 heat 50 low 50 high 50;" + three, 3, 3, 0, 0, 7);
        // fewer pulls of a stronger one are better than a lesser number
        round("smith 15 heat 50 low 40 high 60;" + three, 3, 1, 1, 0, 0);
    }

    /** bestRound: "NONE: none HOLDS". */
    private static void bestRoundsNone() {
        round("smith 4 heat 50 low 50 high 50;", 1, -1, -1);
        round("smith 6 heat 50 low 50 high 50;", 1, -1, -1);
        round("smith 0 cool 1 heat 200 low 1 high 200;", 10, -1, -1);
        round("smith 0 cool 1 heat 200 low 0 high 200;", 10, 0, 0);
    }

    /** bestRound: "-2: what; -3: LENGTH (1 to 10)". */
    private static void bestRoundsCodes() {
        for (int what : new int[] {-1, 1, 9, 13, 20, Integer.MIN_VALUE, Integer.MIN_VALUE + 9, Integer.MAX_VALUE}) {
            EDGE.keeps("24 bestRound(1, " + what + ")", Edge::worked, -2, x -> x.bestRound(1, what));
        }
        for (int what : new int[] {0, 10, 11, 12}) {
            for (int length : new int[] {0, 11, 12, 13, -1, Integer.MIN_VALUE, Integer.MAX_VALUE}) {
                EDGE.keeps("24 bestRound(" + length + ", " + what + ")", Edge::worked, -3, x -> x.bestRound(length, what));
            }
            EDGE.keeps("24 bestRound(1, " + what + ")", Edge::worked, -1, x -> x.bestRound(1, what));
        }
        BlownNext x = Edge.many(10);
        CHECK.due("24 number of the tenth, who never holds", x.bestRound(1, 19), -1);
        CHECK.due("24 number of an eleventh", x.bestRound(1, 20), -2);
    }

    /** bestRound tells -2, -3, -4. */
    private static void bestRoundsCodesInOrder() {
        for (int what : new int[] {-1, 1, 9, 13}) {
            EDGE.keeps("24 -2 ahead of -3 (0)", Edge::worked, -2, x -> x.bestRound(0, what));
            EDGE.keeps("24 -2 ahead of -3 (11)", Edge::worked, -2, x -> x.bestRound(11, what));
            EDGE.keeps("24 -2 ahead of -4", Edge::worked, -2, x -> x.bestRound(4, what));
        }
        EDGE.keeps("24 -3 ahead of -4", Edge::worked, -3, x -> x.bestRound(11, 0));
        EDGE.keeps("24 -4 for the greatest LENGTH", Edge::worked, -4, x -> x.bestRound(10, 0));
    }

    private static void peace(String street, int pay, int set) {
        BlownNext x = Check.streetOf(street);
        CHECK.due("25 PAY together: " + street, x.peace(0), pay);
        CHECK.due("25 the SET: " + street, x.peace(1), set);
    }

    /** "2, if his HEAT is LOW to HIGH behind it, less 1, if he pulls". */
    private static void paysAtBounds() {
        peace("smith 5 heat 24;", 1, 1);
        peace("smith 5 heat 25;", 2, 0);
        peace("smith 5 heat 20;", 1, 1);
        peace("smith 5 heat 19;", 0, 0);
        peace("smith 5 heat 105;", 2, 0);
        peace("smith 5 heat 106;", 0, 0);
        peace("smith 60 cool 0 heat 199 low 200;", 1, 1);
        peace("smith 60 cool 30 heat 29 low 0 high 0;", 2, 0);
        peace("smith 60 cool 30 heat 30 low 0 high 0;", 2, 0);
        peace("smith 60 cool 30 heat 31 low 0 high 0;", 0, 0);
    }

    /** PEACE: "the SET with the greatest PAY of all together, the least". */
    private static void peacesLeastSet() {
        // each of two can warm fire 0: 1 and 2 pay alike
        peace("smith 5 heat 20;smith 5 cool 0 heat 50;blows 0 0;blows 1 0;", 3, 1);
        peace("smith 0 heat 20;smith 5 cool 0 heat 50;blows 0 0;blows 1 0;", 3, 2);
        // a pull for two fires that costs 1 each: as good as none
        peace("smith 5 heat 20;".repeat(10), 10, 1023);
        peace("smith 5 heat 50;".repeat(10), 20, 0);
    }

    /** peace: "-2: what". */
    private static void peacesCodes() {
        for (int what : NO_WHATS) {
            EDGE.keeps("25 peace(" + what + ")", Edge::worked, -2, x -> x.peace(what));
            EDGE.keeps("25 peace(" + what + ") of none", Edge::fresh, -2, x -> x.peace(what));
        }
        // fire 0 is too hot, whoever pulls; 1 and 2 are warm
        EDGE.keeps("25 peace(0)", Edge::worked, 4, x -> x.peace(0));
        EDGE.keeps("25 peace(1)", Edge::worked, 0, x -> x.peace(1));
    }

    /** selfish: "The k-th .., the least first; k NONE: how many. NONE: not so many". */
    private static void selfishNumbers() {
        // who does not blow his own fire has more PAY by resting, who does looks at that of his fire: just one SET
        EDGE.keeps("26 how many", Edge::worked, 1, x -> x.selfish(-1));
        EDGE.keeps("26 the first", Edge::worked, 0, x -> x.selfish(0));
        for (int k : new int[] {1, 2, -2, Integer.MIN_VALUE, Integer.MAX_VALUE}) {
            EDGE.keeps("26 selfish(" + k + ")", Edge::worked, -1, x -> x.selfish(k));
        }
        BlownNext x = Check.streetOf("smith 10 cool 0 heat 50 low 60 high 200;".repeat(10));
        CHECK.due("26 how many of ten", x.selfish(-1), 1);
        CHECK.due("26 nobody pulls", x.selfish(0), 0);
        for (int i = 0; i < 10; i++) {
            x.rope(i, i);
        }
        CHECK.due("26 how many of ten", x.selfish(-1), 1);
        CHECK.due("26 each warms his own", x.selfish(0), 1023);
        CHECK.due("26 not so many", x.selfish(1), -1);
    }

    private static void noSmiths() {
        EDGE.keeps("22 no SMITHS", Edge::fresh, -1, x -> x.wave(12, 11));
        EDGE.keeps("22 no SMITHS, LENGTH 13", Edge::fresh, -3, x -> x.wave(13, 0));
        EDGE.keeps("23 no SMITHS", Edge::fresh, 0, x -> x.bestWave(12));
        EDGE.keeps("23 no SMITHS, LENGTH 0", Edge::fresh, -3, x -> x.bestWave(0));
        EDGE.keeps("24 no SMITHS", Edge::fresh, 0, x -> x.bestRound(10, 0));
        EDGE.keeps("24 no SMITHS, SMITH 0", Edge::fresh, -2, x -> x.bestRound(10, 10));
        EDGE.keeps("24 no SMITHS, LENGTH 11", Edge::fresh, -3, x -> x.bestRound(11, 0));
        EDGE.keeps("25 no SMITHS", Edge::fresh, 0, x -> x.peace(0));
        EDGE.keeps("25 no SMITHS", Edge::fresh, 0, x -> x.peace(1));
        EDGE.keeps("26 no SMITHS", Edge::fresh, 1, x -> x.selfish(-1));
        EDGE.keeps("26 no SMITHS", Edge::fresh, 0, x -> x.selfish(0));
        EDGE.keeps("26 no SMITHS", Edge::fresh, -1, x -> x.selfish(1));
    }

    /** None of these asks how late it is. */
    private static void lastMinute() {
        // fire 1, which nobody blows, is cold by then
        EDGE.keeps("20 at 9999", Edge::last, 1, x -> x.holds(0, 1, 0));
        EDGE.keeps("22 at 9999", Edge::last, 1, x -> x.wave(1, 0));
        EDGE.keeps("23 at 9999", Edge::last, 0, x -> x.bestWave(1));
        EDGE.keeps("24 at 9999", Edge::last, -1, x -> x.bestRound(1, 0));
        EDGE.keeps("26 at 9999", Edge::last, -1, x -> x.selfish(8));
    }
}
