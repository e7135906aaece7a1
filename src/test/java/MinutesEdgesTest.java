import java.util.function.IntFunction;

/** Boundary cases of promises 10 to 15: what a minute does, why one can't be, custom, days. */
public final class MinutesEdgesTest {
    private static final Check CHECK = new Check("MinutesEdgesTest");
    private static final Edge EDGE = new Edge(CHECK);
    private static final int[] NO_ROWS = {-1, 4, Integer.MIN_VALUE, Integer.MAX_VALUE};

    public static void main(String[] args) {
        minuteAtFirst();
        callsAtMost();
        strokesBetweenLowAndHigh();
        heatAsTheMinuteBegins();
        doneCountsNoMore();
        heatAtMost();
        heatAtLeast();
        burntAboveHigh();
        burntWithStrokesAlone();
        doneIsNotBurnt();
        strokesLost();
        setsOfMinute();
        inBoth();
        lastMinute();
        minutesCodesInOrder();
        whyOthers();
        whyBoth();
        whyNoSecond();
        whyLate();
        whyInOrder();
        judgedAsIfDone();
        judgesCodes();
        performsAsFarAsItCan();
        performsCodes();
        customPulls();
        customStrikes();
        customsLength();
        customsLastMinute();
        livesLength();
        livesLastMinute();
        daysLength();
        daysLastMinute();
        daysSeeds();
        CHECK.end();
    }

    private static int heatBehind(String street, int pull) {
        BlownNext x = Check.streetOf(street);
        x.minute(pull, 0);
        return x.smith(0, 2);
    }

    /** "MINUTE is 0 at first". */
    private static void minuteAtFirst() {
        BlownNext x = Edge.fresh();
        CHECK.due("43 MINUTE", x.count(1), 0);
        CHECK.due("10 without SMITHS", x.minute(0, 0), 0);
        CHECK.due("43 MINUTE", x.count(1), 1);
        CHECK.due("43 MINUTE of a street", Edge.two().count(1), 0);
    }

    /** "used for at most 512 calls": the 512th is answered as any. */
    private static void callsAtMost() {
        BlownNext x = Edge.fresh();
        x.feed(0x736d6974, 0x68203020, 0x636f6f6c, 0x20302068, 0x65617420);
        x.feed(0x3530203b, 0x20202020, 0x20202020, 0x20202020, 0x20202020);
        CHECK.due("3 the third call", x.street(40), 1);
        for (int k = 3; k < 508; k += 2) {
            CHECK.due("10 a stroke that counts", x.minute(0, 1), 1);
            CHECK.due("9 a new PIECE", x.piece(0, 2), 1);
        }
        CHECK.due("43 the 510th call", x.count(1), 253);
        CHECK.due("27 the 511th call", x.soonest(), 2);
        CHECK.due("5 the 512th call", x.smith(0, 2), 50);
    }

    private static void strikes(String street, int due) {
        BlownNext x = Check.streetOf(street);
        CHECK.due("10 strokes that count: " + street, x.minute(0, 1), due);
        CHECK.due("5 strokes it has: " + street, x.smith(0, 6), due);
    }

    /** "A stroke counts, if his HEAT .. is LOW to HIGH". */
    private static void strokesBetweenLowAndHigh() {
        int[] heats = {0, 19, 20, 21, 99, 100, 101, 200};
        int[] due = {0, 0, 1, 1, 1, 1, 0, 0};
        for (int k = 0; k < heats.length; k++) {
            strikes("smith 0 cool 0 heat " + heats[k] + ";", due[k]);
        }
        for (int heat = 49; heat <= 51; heat++) {
            strikes("smith 0 cool 0 heat " + heat + " low 50 high 50;", heat == 50 ? 1 : 0);
        }
        strikes("smith 0 heat 0 low 0 high 0;", 1);
        strikes("smith 0 heat 1 low 0 high 0;", 0);
        strikes("smith 0 heat 200 low 200 high 200;", 1);
        strikes("smith 0 heat 199 low 200 high 200;", 0);
    }

    /** "(as the MINUTE begins)". */
    private static void heatAsTheMinuteBegins() {
        String warmed = "smith 0 cool 0 heat 19;smith 5 cool 0;";
        BlownNext x = Check.streetOf(warmed);
        CHECK.due("10 too cold as it begins", x.minute(2, 1), 0);
        CHECK.due("5 warm behind it", x.smith(0, 2), 24);
        CHECK.due("10 warm as it begins", x.minute(0, 1), 1);
        x = Check.streetOf("smith 0 heat 20;");
        CHECK.due("10 at LOW as it begins", x.minute(0, 1), 1);
        CHECK.due("5 cold behind it", x.smith(0, 2), 15);
        x = Check.streetOf("smith 0 cool 1 heat 101;");
        CHECK.due("10 too hot as it begins", x.minute(0, 1), 0);
        CHECK.due("5 not behind it", x.smith(0, 2), 100);
    }

    /** "and his PIECE isn't DONE (it has as many strokes as it needs ..)". */
    private static void doneCountsNoMore() {
        BlownNext x = Check.streetOf("smith 0 cool 0 heat 50 piece 2;");
        CHECK.due("10 one of two", x.minute(0, 1), 1);
        CHECK.due("5 not DONE", x.smith(0, 9), 0);
        CHECK.due("10 two of two", x.minute(0, 1), 1);
        CHECK.due("5 DONE", x.smith(0, 9), 1);
        CHECK.due("10 no third one", x.minute(0, 1), 0);
        CHECK.due("5 it has two", x.smith(0, 6), 2);
        strikes("smith 0 cool 0 heat 50 piece 0;", 0);
        strikes("smith 0 cool 0 heat 50 piece 1;", 1);
        x = Check.streetOf("smith 0 cool 0 heat 50 piece 20;");
        int counted = 0;
        for (int k = 0; k < 21; k++) {
            counted += x.minute(0, 1);
        }
        CHECK.due("10 twenty of twenty", counted, 20);
    }

    /** "above 200 it is 200". */
    private static void heatAtMost() {
        CHECK.due("10 199", heatBehind("smith 14 heat 190 high 200;", 1), 199);
        CHECK.due("10 200", heatBehind("smith 15 heat 190 high 200;", 1), 200);
        CHECK.due("10 201", heatBehind("smith 16 heat 190 high 200;", 1), 200);
        CHECK.due("10 255", heatBehind("smith 60 heat 200 high 200;", 1), 200);
        // 12 comes and 5 goes, before it is bounded
        CHECK.due("10 202 less 5", heatBehind("smith 12 heat 190;", 1), 197);
        CHECK.due("10 205 less 5", heatBehind("smith 5 heat 200;", 1), 200);
        CHECK.due("10 ten of 60 on one", heatBehind("smith 60;".repeat(10) + "blows 0 0;blows 1 0;blows 2 0;blows 3 0;"
            + "blows 4 0;blows 5 0;blows 6 0;blows 7 0;blows 8 0;blows 9 0;", 1023), 200);
    }

    /** "below 0 it is 0". */
    private static void heatAtLeast() {
        CHECK.due("10 1", heatBehind("smith 4 heat 6;", 0), 1);
        CHECK.due("10 0", heatBehind("smith 4 heat 5;", 0), 0);
        CHECK.due("10 -1", heatBehind("smith 4 heat 4;", 0), 0);
        CHECK.due("10 -30", heatBehind("smith 4 cool 30;", 0), 0);
        // 5 goes and 4 comes, before it is bounded
        CHECK.due("10 2 less 5 and 4", heatBehind("smith 4 heat 2;", 1), 1);
        CHECK.due("10 0 less 5 and 4", heatBehind("smith 4;", 1), 0);
    }

    /** One stroke at 90, then a pull of a BLAST: how often BURNT. */
    private static int burns(int blast) {
        BlownNext x = Check.streetOf("smith " + blast + " cool 0 heat 90;burnt 1;");
        x.minute(0, 1);
        x.minute(1, 0);
        CHECK.due("43 as smith() tells", x.count(3), x.smith(0, 7));
        CHECK.due("5 one is lost when BURNT", x.smith(0, 6), 1 - x.smith(0, 7));
        return x.smith(0, 7);
    }

    /** "BURNT, if HEAT is above HIGH". */
    private static void burntAboveHigh() {
        CHECK.due("10 at 99", burns(9), 0);
        CHECK.due("10 at HIGH", burns(10), 0);
        CHECK.due("10 one above HIGH", burns(11), 1);
        CHECK.due("10 far above HIGH", burns(60), 1);
        BlownNext x = Check.streetOf("smith 60 cool 0 heat 180 low 0 high 199;");
        x.minute(0, 1);
        x.minute(1, 0);
        CHECK.due("10 200 is above 199", x.smith(0, 7), 1);
        x = Check.streetOf("smith 60 cool 0 heat 180 low 0 high 200;");
        x.minute(0, 1);
        x.minute(1, 0);
        CHECK.due("10 200 is not above 200", x.smith(0, 7), 0);
    }

    /** "and has strokes". */
    private static void burntWithStrokesAlone() {
        BlownNext x = Check.streetOf("smith 60 cool 0 heat 90;burnt 0;");
        x.minute(1, 0);
        CHECK.due("10 without strokes", x.smith(0, 7), 0);
        x = Check.streetOf("smith 60 cool 0 heat 90 piece 4;burnt 1;");
        x.minute(0, 1);
        x.minute(0, 1);
        x.minute(1, 0);
        CHECK.due("10 with two", x.smith(0, 7), 1);
        x.minute(0, 0);
        CHECK.due("10 with one", x.smith(0, 7), 2);
        x.minute(0, 0);
        CHECK.due("10 with none", x.smith(0, 7), 2);
        CHECK.due("43 twice in all", x.count(3), 2);
    }

    /** "Then a PIECE that isn't DONE .. is BURNT". */
    private static void doneIsNotBurnt() {
        String street = "smith 0 cool 0 heat 100 piece 2;smith 60;burnt 1;";
        BlownNext x = Check.streetOf(street);
        CHECK.due("10 a stroke at HIGH", x.minute(2, 1), 1);
        CHECK.due("10 BURNT in the same MINUTE", x.smith(0, 7), 1);
        CHECK.due("10 and lost", x.smith(0, 6), 0);
        x = Check.streetOf(street);
        x.minute(0, 1);
        CHECK.due("10 the last stroke at HIGH", x.minute(2, 1), 1);
        CHECK.due("10 is DONE, not BURNT", x.smith(0, 7), 0);
        x.minute(2, 0);
        CHECK.due("10 nor later", x.smith(0, 7), 0);
        CHECK.due("10 two strokes", x.smith(0, 6), 2);
        x = Check.streetOf("smith 60 cool 0 heat 100 piece 0;");
        x.minute(1, 0);
        CHECK.due("10 without any to be done", x.smith(0, 7), 0);
    }

    /** "it loses strokes (not below 0)". */
    private static void strokesLost() {
        int[] left = {3, 2, 1, 0, 0, 0};
        for (int loss = 0; loss <= 5; loss++) {
            BlownNext x = Check.streetOf("smith 60 cool 0 heat 90 piece 4;burnt " + loss + ";");
            x.minute(0, 1);
            x.minute(0, 1);
            x.minute(0, 1);
            x.minute(1, 0);
            CHECK.due("10 three less " + loss, x.smith(0, 6), left[loss]);
            CHECK.due("10 BURNT", x.smith(0, 7), 1);
        }
        BlownNext x = Check.streetOf("smith 60 cool 0 heat 90 piece 20;");
        for (int k = 0; k < 19; k++) {
            x.minute(0, 1);
        }
        x.minute(1, 0);
        CHECK.due("10 all nineteen without burnt", x.smith(0, 6), 0);
    }

    /** minute: "-3: a set with others than SMITHS". */
    private static void setsOfMinute() {
        for (int set : new int[] {4, 7, 1 << 10, 1 << 30, -1, -4, Integer.MIN_VALUE, Integer.MAX_VALUE}) {
            EDGE.keeps("10 minute(" + set + ", 0)", Edge::two, -3, x -> x.minute(set, 0));
            EDGE.keeps("10 minute(0, " + set + ")", Edge::two, -3, x -> x.minute(0, set));
        }
        for (int set = 0; set < 4; set++) {
            int some = set;
            EDGE.changes("10 minute(" + set + ", 0)", Edge::two, 0, x -> x.minute(some, 0));
            EDGE.changes("10 minute(0, " + set + ")", Edge::two, Integer.bitCount(set), x -> x.minute(0, some));
        }
        EDGE.keeps("10 a puller of none", Edge::fresh, -3, x -> x.minute(1, 0));
        EDGE.keeps("10 a striker of none", Edge::fresh, -3, x -> x.minute(0, 1));
        EDGE.changes("10 nobody of none", Edge::fresh, 0, x -> x.minute(0, 0));
        EDGE.changes("10 ten pull", () -> Edge.many(10), 0, x -> x.minute(1023, 0));
        EDGE.changes("10 ten strike", () -> Edge.many(10), 10, x -> x.minute(0, 1023));
        EDGE.keeps("10 an eleventh pulls", () -> Edge.many(10), -3, x -> x.minute(1024, 0));
        EDGE.keeps("10 an eleventh strikes", () -> Edge.many(10), -3, x -> x.minute(0, 1024));
    }

    /** minute: "one in both". */
    private static void inBoth() {
        for (int pull = 0; pull < 4; pull++) {
            for (int strike = 0; strike < 4; strike++) {
                int first = pull;
                int second = strike;
                if ((pull & strike) != 0) {
                    EDGE.keeps("10 in both: " + pull + ", " + strike, Edge::two, -3, x -> x.minute(first, second));
                } else {
                    EDGE.changes("10 in one: " + pull + ", " + strike, Edge::two, Integer.bitCount(strike),
                        x -> x.minute(first, second));
                }
            }
        }
        EDGE.keeps("10 the tenth in both", () -> Edge.many(10), -3, x -> x.minute(512, 512));
    }

    /** minute: "-5: MINUTE is 9999". */
    private static void lastMinute() {
        EDGE.changes("10 at 9997", () -> Edge.workedTill(9997), 0, x -> x.minute(0, 0));
        EDGE.changes("10 at 9998", () -> Edge.workedTill(9998), 0, x -> x.minute(0, 0));
        EDGE.keeps("10 at 9999", Edge::last, -5, x -> x.minute(0, 0));
        EDGE.keeps("10 at 9999 with pulls and strokes", Edge::last, -5, x -> x.minute(1, 6));
        BlownNext x = Edge.workedTill(9998);
        x.minute(0, 0);
        CHECK.due("43 9999", x.count(1), 9999);
        x.minute(0, 0);
        CHECK.due("43 9999 at most", x.count(1), 9999);
    }

    /** minute tells -3 ahead of -5. */
    private static void minutesCodesInOrder() {
        EDGE.keeps("10 others pull at 9999", Edge::last, -3, x -> x.minute(8, 0));
        EDGE.keeps("10 others strike at 9999", Edge::last, -3, x -> x.minute(0, 8));
        EDGE.keeps("10 one in both at 9999", Edge::last, -3, x -> x.minute(2, 2));
    }

    /** judge of a ROW on a street, and that perform() does just what can be. */
    private static void judged(BlownNext x, String which, int first, int why, int sort, long... numbers) {
        Check.row(x, 0, sort, numbers);
        int before = x.count(1);
        CHECK.due("11 first MINUTE that can't be: " + which, x.judge(0, 0), first);
        CHECK.due("11 why: " + which, x.judge(0, 1), why);
        int done = first == -1 ? numbers.length / 2 : first;
        CHECK.due("12 MINUTES done: " + which, x.perform(0), done);
        CHECK.due("43 MINUTE: " + which, x.count(1), before + done);
    }

    /** "1 a set with others than SMITHS". */
    private static void whyOthers() {
        for (int sort = 0; sort < 4; sort++) {
            judged(Edge.two(), "both pull", -1, 0, sort, 3, 0);
            judged(Edge.two(), "a third pulls", 0, 1, sort, 4, 0);
            judged(Edge.two(), "below 0 pulls", 0, 1, sort, -1, 0);
            judged(Edge.two(), "both strike", -1, 0, sort, 0, 3);
            judged(Edge.two(), "a third strikes", 0, 1, sort, 0, 4);
            judged(Edge.two(), "below 0 strikes", 0, 1, sort, 0, -1);
            judged(Edge.fresh(), "nobody of none", -1, 0, sort, 0, 0);
            judged(Edge.fresh(), "a puller of none", 0, 1, sort, 1, 0);
            judged(Edge.fresh(), "a striker of none", 0, 1, sort, 0, 1);
        }
        judged(Edge.two(), "highest of 8 bits", 0, 1, 0, -128, 0);
        judged(Edge.two(), "highest of 32 bits", 0, 1, 2, 0, Integer.MIN_VALUE);
        judged(Edge.two(), "bit 32", 0, 1, 3, 1L << 32, 0);
        judged(Edge.two(), "bit 32 and a SMITH", 0, 1, 3, 0, (1L << 32) + 1);
        judged(Edge.two(), "highest of 64 bits", 0, 1, 3, Long.MIN_VALUE, 0);
        judged(Edge.many(10), "ten", -1, 0, 1, 1023, 0, 0, 1023);
        judged(Edge.many(10), "an eleventh pulls", 0, 1, 1, 1024, 0);
        judged(Edge.many(10), "an eleventh strikes", 0, 1, 1, 0, 1024);
        // cut to 8 bits 1,027 is 3
        judged(Edge.two(), "cut to 8 bits", -1, 0, 0, 1024 + 3, 0);
    }

    /** "2 one in both". */
    private static void whyBoth() {
        judged(Edge.two(), "0 in both", 0, 2, 0, 1, 1);
        judged(Edge.two(), "1 in both", 0, 2, 0, 3, 2);
        judged(Edge.two(), "none in both", -1, 0, 0, 1, 2);
        judged(Edge.many(10), "the tenth in both", 0, 2, 1, 512, 512);
        judged(Edge.two(), "in the second MINUTE", 1, 2, 0, 1, 2, 2, 3);
    }

    /** "3 no second number". */
    private static void whyNoSecond() {
        judged(Edge.two(), "no numbers", -1, 0, 0);
        judged(Edge.two(), "one number", 0, 3, 0, 3);
        judged(Edge.two(), "two numbers", -1, 0, 0, 3, 0);
        judged(Edge.two(), "three numbers", 1, 3, 0, 3, 0, 3);
        judged(Edge.two(), "39 numbers", 19, 3, 0, new long[39]);
        judged(Edge.two(), "40 numbers", -1, 0, 0, new long[40]);
        BlownNext x = Edge.two();
        judged(x, "one number", 0, 3, 0, 3);
        judged(x, "no numbers behind that", -1, 0, 0);
    }

    /** "4 MINUTE is 9999". */
    private static void whyLate() {
        judged(Edge.workedTill(9997), "two MINUTES from 9997 on", -1, 0, 0, 0, 0, 0, 0);
        judged(Edge.workedTill(9998), "one MINUTE from 9998 on", -1, 0, 0, 0, 0);
        judged(Edge.workedTill(9998), "two MINUTES from 9998 on", 1, 4, 0, 0, 0, 0, 0);
        judged(Edge.last(), "one MINUTE at 9999", 0, 4, 0, 0, 0);
        judged(Edge.last(), "none at 9999", -1, 0, 0);
        judged(Edge.workedTill(9980), "twenty from 9980 on", 19, 4, 0, new long[40]);
        judged(Edge.workedTill(9979), "twenty from 9979 on", -1, 0, 0, new long[40]);
    }

    /** "Of one MINUTE that which is told first; 1 of the pulling set ahead of 3, of the striking set behind 3". */
    private static void whyInOrder() {
        judged(Edge.two(), "1 of the pulling set ahead of 3", 0, 1, 0, 4);
        judged(Edge.two(), "3, as there is no striking set", 0, 3, 0, 0);
        judged(Edge.two(), "1 of the pulling set ahead of 2", 0, 1, 0, 5, 1);
        judged(Edge.two(), "1 of the striking set ahead of 2", 0, 1, 0, 1, 5);
        judged(Edge.two(), "1 of both ahead of 2", 0, 1, 0, 4, 4);
        judged(Edge.last(), "1 of the pulling set ahead of 4", 0, 1, 0, 8, 0);
        judged(Edge.last(), "1 of the striking set ahead of 4", 0, 1, 0, 0, 8);
        judged(Edge.last(), "2 ahead of 4", 0, 2, 0, 1, 1);
        judged(Edge.last(), "3 ahead of 4", 0, 3, 0, 1);
        judged(Edge.last(), "1 ahead of 3 and 4", 0, 1, 0, 8);
        judged(Edge.two(), "the first MINUTE, though a later one has 1", 0, 2, 0, 1, 1, 4, 0);
    }

    /** judge: "judged as if done": what 0 .. 4, as far as they can be. */
    private static void judgedAsIfDone() {
        long[] due = {2, 3, 1, 1, 0};
        for (int what = 0; what < 5; what++) {
            int asked = what;
            // 0 pulls and 1 strikes (34: counts); 2 pulls and 0 strikes (at 207, bounded to 200: no stroke)
            EDGE.keeps("11 judge(1, " + what + ")", Edge::worked, due[what], x -> x.judge(1, asked));
        }
        BlownNext x = Edge.worked();
        CHECK.due("12 two of them", x.perform(1), 2);
        CHECK.due("43 MINUTE", x.count(1), 5);
        CHECK.due("5 the stroke that counted", x.smith(1, 6), 2);
        x = Check.streetOf("smith 60 heat 95 piece 2;smith 60 heat 95 piece 1;burnt 1;blows 0 0;blows 1 1;");
        x.minute(0, 1);
        x.minute(1, 0);
        CHECK.due("43 BURNT ahead of it", x.count(3), 1);
        Check.row(x, 0, 0, 0, 2, 2, 0, 0, 0, 9);
        int[] such = {3, 1, 1, 1, 0};
        for (int what = 0; what < 5; what++) {
            CHECK.due("11 done then, not BURNT, " + what, x.judge(0, what), such[what]);
        }
        x.piece(1, 2);
        such[3] = 0;
        such[4] = 1;
        for (int what = 0; what < 5; what++) {
            CHECK.due("11 not done then, BURNT once, " + what, x.judge(0, what), such[what]);
        }
    }

    /** judge: "-2: the ROW, what; -6". */
    private static void judgesCodes() {
        for (int row : NO_ROWS) {
            for (int what = -1; what <= 5; what++) {
                int asked = what;
                EDGE.keeps("11 judge(" + row + ", " + what + ")", Edge::worked, -2, x -> x.judge(row, asked));
            }
        }
        for (int what : new int[] {-1, 5, Integer.MIN_VALUE, Integer.MAX_VALUE}) {
            EDGE.keeps("11 judge(0, " + what + ")", Edge::worked, -2, x -> x.judge(0, what));
            EDGE.keeps("11 -2 ahead of -6: judge(3, " + what + ")", Edge::worked, -2, x -> x.judge(3, what));
        }
        for (int what = 0; what < 5; what++) {
            int asked = what;
            EDGE.keeps("11 missing, judge(3, " + what + ")", Edge::worked, -6, x -> x.judge(3, asked));
        }
    }

    /** perform: "They are done as far as they can". */
    private static void performsAsFarAsItCan() {
        EDGE.changes("12 two of three", Edge::worked, 2, x -> x.perform(1));
        EDGE.changes("12 nineteen of twenty", Edge::worked, 19, x -> x.perform(2));
        EDGE.keeps("12 none can be", Edge::worked, 0, x -> x.perform(0));
        EDGE.keeps("12 none at 9999", Edge::last, 0, x -> x.perform(1));
        EDGE.keeps("12 there are none", () -> Edge.many(0), 0, x -> x.perform(0));
    }

    /** perform: "-2; -6". */
    private static void performsCodes() {
        for (int row : NO_ROWS) {
            EDGE.keeps("12 perform(" + row + ")", Edge::worked, -2, x -> x.perform(row));
        }
        EDGE.keeps("12 missing", Edge::worked, -6, x -> x.perform(3));
        for (int row = 0; row < 4; row++) {
            int asked = row;
            EDGE.keeps("12 missing at first, " + row, Edge::fresh, -6, x -> x.perform(asked));
        }
    }

    private static int heatByCustom(String street) {
        BlownNext x = Check.streetOf(street);
        x.live(1);
        return x.smith(0, 2);
    }

    /** CUSTOM: "whose BLAST would not bring the fire .. above its HIGH (its HEAT now and that BLAST)". */
    private static void customPulls() {
        CHECK.due("14 to 99: he pulls", heatByCustom("smith 49 heat 50 piece 0;"), 94);
        CHECK.due("14 to HIGH: he pulls", heatByCustom("smith 50 heat 50 piece 0;"), 95);
        CHECK.due("14 one above HIGH: he rests", heatByCustom("smith 51 heat 50 piece 0;"), 45);
        CHECK.due("14 at HIGH with 0: he pulls in vain", heatByCustom("smith 0 heat 100 piece 0;"), 95);
        CHECK.due("14 each for himself", heatByCustom("smith 50 heat 50 piece 0;smith 50 piece 0;blows 0 0;"), 145);
        CHECK.due("14 up to 200", heatByCustom("smith 60 heat 140 high 200 piece 0;"), 195);
        CHECK.due("14 above 200", heatByCustom("smith 60 heat 141 high 200 piece 0;"), 136);
        // HIGH is that of the fire he blows, not his own
        CHECK.due("14 HIGH of the other", heatByCustom("smith 0 heat 30 high 50 piece 0;smith 21 high 200 piece 0;"), 25);
        CHECK.due("14 HIGH of the other", heatByCustom("smith 0 heat 30 high 51 piece 0;smith 21 high 20 piece 0;"), 46);
    }

    /** CUSTOM: "who can strike so that it counts strikes; of the others those pull". */
    private static void customStrikes() {
        int[] heats = {19, 20, 100, 101};
        int[] counted = {0, 1, 1, 0};
        int[] behind = {19 + 3 - 5, 15, 95, 96};
        for (int k = 0; k < 4; k++) {
            BlownNext x = Check.streetOf("smith 3 heat " + heats[k] + ";");
            CHECK.due("14 at " + heats[k], x.live(1), counted[k]);
            CHECK.due("5 HEAT behind " + heats[k], x.smith(0, 2), behind[k]);
        }
        CHECK.due("14 DONE: he pulls", heatByCustom("smith 3 heat 50 piece 0;"), 48);
        CHECK.due("14 not DONE: he strikes", heatByCustom("smith 3 heat 50 piece 1;"), 45);
    }

    /** The lengths of MINUTES by CUSTOM, and around them: what is refused by -3. */
    static int[] wrongLengths() {
        return new int[] {0, -1, 201, Integer.MIN_VALUE, Integer.MAX_VALUE};
    }

    /** custom: "n MINUTES (1 to 200)"; "-3: n". */
    private static void customsLength() {
        for (int n : wrongLengths()) {
            EDGE.keeps("13 custom(" + n + ")", Edge::worked, -3, x -> x.custom(n));
        }
        BlownNext x = Check.streetOf("smith 0 cool 0 heat 50 piece 2;smith 0 cool 1 heat 200 low 0 high 2 piece 1;");
        // 1 comes to 2 behind 198 MINUTES, and is struck in the one behind them
        int[] lengths = {1, 2, 198, 199, 200};
        int[] done = {0, 1, 1, 2, 2};
        for (int k = 0; k < 5; k++) {
            CHECK.due("13 custom(" + lengths[k] + ")", x.custom(lengths[k]), done[k]);
        }
        // 0 strikes as soon as his fire has cooled to 100, 1 at once; 2 has nothing to do
        EDGE.keeps("13 as if done", Edge::worked, 3, y -> y.custom(200));
        EDGE.keeps("13 as if done", Edge::worked, 1, y -> y.custom(1));
        EDGE.keeps("13 without SMITHS", Edge::fresh, 0, y -> y.custom(200));
    }

    /** Asks at the bounds of "MINUTE would be above 9999": the answer there, or whether it is one. */
    private static void lateLengths(String call, IntFunction<Edge.Call> of) {
        int[] minutes = {9998, 9998, 9999, 9804, 9804};
        int[] lengths = {1, 2, 1, 195, 196};
        for (int k = 0; k < 5; k++) {
            BlownNext x = Edge.workedTill(minutes[k]);
            boolean refused = minutes[k] + lengths[k] > 9999;
            long got = of.apply(lengths[k]).on(x);
            CHECK.due(call + " at " + minutes[k] + " for " + lengths[k] + " answered " + got, got == -5 ? 1 : 0, refused ? 1 : 0);
        }
    }

    /** custom: "-5: MINUTE would be above 9999", behind "-3: n". */
    private static void customsLastMinute() {
        lateLengths("13 custom", n -> x -> x.custom(n));
        EDGE.keeps("13 custom(1) at 9999", Edge::last, -5, x -> x.custom(1));
        EDGE.keeps("13 custom(200) at 9999", Edge::last, -5, x -> x.custom(200));
        for (int n : wrongLengths()) {
            EDGE.keeps("13 -3 ahead of -5: custom(" + n + ")", Edge::last, -3, x -> x.custom(n));
        }
    }

    /** live: "CUSTOM is done for n MINUTES"; "-3". */
    private static void livesLength() {
        for (int n : wrongLengths()) {
            EDGE.keeps("14 live(" + n + ")", Edge::worked, -3, x -> x.live(n));
        }
        for (int n : new int[] {1, 2, 199, 200}) {
            BlownNext x = Edge.worked();
            int custom = x.custom(n);
            x.live(n);
            CHECK.due("14 MINUTE behind live(" + n + ")", x.count(1), 3 + n);
            CHECK.due("14 as custom(" + n + ") told", x.count(2), custom);
        }
        EDGE.changes("14 one MINUTE", Edge::worked, 1, x -> x.live(1));
        BlownNext x = Check.streetOf("smith 0 cool 0 heat 50 piece 20;");
        CHECK.due("14 live(19)", x.live(19), 19);
        CHECK.due("14 live(200)", x.live(200), 1);
    }

    /** live: "-5", behind "-3". */
    private static void livesLastMinute() {
        lateLengths("14 live", n -> x -> x.live(n));
        EDGE.keeps("14 live(1) at 9999", Edge::last, -5, x -> x.live(1));
        EDGE.keeps("14 live(2) at 9998", () -> Edge.workedTill(9998), -5, x -> x.live(2));
        for (int n : wrongLengths()) {
            EDGE.keeps("14 -3 ahead of -5: live(" + n + ")", Edge::last, -3, x -> x.live(n));
        }
    }

    /** day: "so many MINUTES (1 to 60)"; "-3: how many MINUTES". */
    private static void daysLength() {
        for (int n : new int[] {0, -1, 61, 200, Integer.MIN_VALUE, Integer.MAX_VALUE}) {
            EDGE.keeps("15 day(1, " + n + ")", Edge::worked, -3, x -> x.day(1, n));
            EDGE.keeps("15 -3 ahead of -5: day(1, " + n + ")", Edge::last, -3, x -> x.day(1, n));
        }
        for (int n : new int[] {1, 2, 59, 60}) {
            BlownNext x = Edge.worked();
            CHECK.due("15 day(1, " + n + ")", x.day(1, n) >= 0 ? 1 : 0, 1);
            CHECK.due("15 MINUTE behind day(1, " + n + ")", x.count(1), 3 + n);
        }
        BlownNext x = Edge.fresh();
        CHECK.due("15 without SMITHS", x.day(1, 60), 0);
        CHECK.due("15 MINUTE without SMITHS", x.count(1), 60);
    }

    /** day: "-5: MINUTE would be above 9999". */
    private static void daysLastMinute() {
        int[] minutes = {9939, 9940, 9940, 9998, 9998, 9999};
        int[] lengths = {60, 60, 59, 1, 2, 1};
        int[] refused = {0, 1, 0, 0, 1, 1};
        for (int k = 0; k < 6; k++) {
            BlownNext x = Edge.workedTill(minutes[k]);
            int got = x.day(7, lengths[k]);
            CHECK.due("15 at " + minutes[k] + " for " + lengths[k] + " answered " + got, got == -5 ? 1 : 0, refused[k]);
            CHECK.due("15 MINUTE behind it", x.count(1), minutes[k] + (refused[k] == 1 ? 0 : lengths[k]));
        }
        EDGE.keeps("15 at 9999", Edge::last, -5, x -> x.day(7, 1));
        EDGE.keeps("15 at 9998", () -> Edge.workedTill(9998), -5, x -> x.day(7, 2));
    }

    /** "x becomes 1103515245 x + 12345" as an int, which wraps around; "it is x >>> 16"; each SMITH by numbers. */
    private static void daysSeeds() {
        int[] seeds = {0, 1, -1, 65535, 65536, -65536, 1 << 30, Integer.MAX_VALUE, Integer.MIN_VALUE};
        for (int seed : seeds) {
            for (int smiths = 1; smiths <= 10; smiths += 3) {
                dayByDraws(seed, smiths);
            }
        }
    }

    private static void dayByDraws(int seed, int smiths) {
        String street = "smith 6 heat 60 low 0 high 200 piece 20;".repeat(smiths);
        BlownNext x = Check.streetOf(street);
        BlownNext y = Check.streetOf(street);
        long drawn = seed;
        int counted = 0;
        for (int m = 0; m < 8; m++) {
            int[] sets = new int[3];
            for (int i = 0; i < smiths; i++) {
                drawn = Math.floorMod(drawn * 1103515245L + 12345L, 1L << 32);
                sets[(int) (drawn / 65536 % 3)] |= 1 << i;
            }
            counted += y.minute(sets[1], sets[2]);
        }
        String which = " of seed " + seed + ", " + smiths + " SMITHS";
        CHECK.due("15 strokes" + which, x.day(seed, 8), counted);
        for (int i = 0; i < smiths; i++) {
            CHECK.due("15 HEAT " + i + which, x.smith(i, 2), y.smith(i, 2));
            CHECK.due("15 strokes of " + i + which, x.smith(i, 6), y.smith(i, 6));
        }
    }
}
