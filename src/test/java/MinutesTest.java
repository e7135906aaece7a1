/** Promises 10 to 15: minutes, told, by custom, by draws. */
public final class MinutesTest {
    private static final Check CHECK = new Check("MinutesTest");

    public static void main(String[] args) {
        minutes();
        bounds();
        burning();
        told();
        whyNot();
        custom();
        days();
        lastMinute();
        CHECK.end();
    }

    private static void minutes() {
        BlownNext x = Check.streetOf("smith 10 heat 30 piece 2;smith 20 cool 0 heat 99 piece 3;");
        CHECK.due("10 both strike", x.minute(0, 3), 2);
        CHECK.due("10 heat 0", x.smith(0, 2), 25);
        CHECK.due("10 heat 1", x.smith(1, 2), 99);
        CHECK.due("10 one pulls", x.minute(1, 0), 0);
        CHECK.due("10 heat 1 rises", x.smith(1, 2), 109);
        CHECK.due("10 its strokes are lost", x.smith(1, 6), 0);
        CHECK.due("10 burnt", x.smith(1, 7), 1);
        CHECK.due("43 burnt", x.count(3), 1);
        CHECK.due("10 pulls and strikes at LOW", x.minute(2, 1), 1);
        CHECK.due("10 heat 0 rises", x.smith(0, 2), 35);
        CHECK.due("10 without strokes not burnt", x.smith(1, 7), 1);
        CHECK.due("10 done", x.smith(0, 9), 1);
        CHECK.due("10 a done one", x.minute(0, 1), 0);
        CHECK.due("10 above HIGH", x.minute(0, 2), 0);
        CHECK.due("10 minute", x.count(1), 5);
        CHECK.due("10 pulls: a stranger", x.minute(4, 0), -3);
        CHECK.due("10 strikes: a stranger", x.minute(0, 4), -3);
        CHECK.due("10 both things", x.minute(1, 3), -3);
        CHECK.due("10 -1", x.minute(-1, 0), -3);
        CHECK.due("10 highest bit", x.minute(0, Integer.MIN_VALUE), -3);
        CHECK.due("10 nothing changed", x.count(1), 5);
    }

    private static void bounds() {
        BlownNext x = Check.streetOf("smith 60 heat 190 high 200;smith 0 heat 3 low 0;blows 0 0;");
        CHECK.due("10 strikes at 190 and 3", x.minute(0, 3), 2);
        x.minute(1, 0);
        CHECK.due("10 not above 200", x.smith(0, 2), 200);
        CHECK.due("10 not below 0", x.smith(1, 2), 0);
        CHECK.due("10 200 is not above HIGH", x.smith(0, 7), 0);
        CHECK.due("10 0 is not below LOW", x.minute(0, 2), 1);
        x = Check.streetOf("smith 7 heat 19;smith 7 heat 20;smith 7 heat 100;smith 7 heat 101;");
        CHECK.due("10 LOW to HIGH", x.minute(0, 15), 2);
        CHECK.due("10 below", x.smith(0, 6), 0);
        CHECK.due("10 at LOW", x.smith(1, 6), 1);
        CHECK.due("10 at HIGH", x.smith(2, 6), 1);
        CHECK.due("10 above", x.smith(3, 6), 0);
        x = Check.streetOf("smith 7 heat 50;smith 9 heat 50;blows 0 0;blows 1 0;");
        x.minute(3, 0);
        CHECK.due("10 two blow one", x.smith(0, 2), 61);
        CHECK.due("10 none blows the other", x.smith(1, 2), 45);
    }

    private static void burning() {
        BlownNext x = Check.streetOf("smith 60 heat 99 piece 5;blows 0 0;burnt 2;");
        x.minute(0, 1);
        x.minute(0, 1);
        x.minute(0, 1);
        x.minute(1, 0);
        CHECK.due("10 two are lost", x.smith(0, 6), 1);
        x.minute(0, 0);
        CHECK.due("10 not below 0", x.smith(0, 6), 0);
        x.minute(0, 0);
        CHECK.due("10 twice burnt", x.smith(0, 7), 2);
        x = Check.streetOf("smith 60 heat 99 piece 5;blows 0 0;burnt 0;");
        x.minute(0, 1);
        x.minute(1, 0);
        x.minute(0, 0);
        CHECK.due("10 none is lost", x.smith(0, 6), 1);
        CHECK.due("10 but burnt", x.count(3), 2);
        x = Check.streetOf("smith 60 heat 99 piece 1;blows 0 0;");
        x.minute(0, 1);
        x.minute(1, 0);
        CHECK.due("10 a done one is not burnt", x.smith(0, 7), 0);
        CHECK.due("10 and stays done", x.smith(0, 9), 1);
        x = Check.streetOf("smith 10 heat 100;smith 60 heat 50;");
        CHECK.due("10 the stroke comes first", x.minute(2, 1), 1);
        CHECK.due("10 and is lost in the same minute", x.smith(0, 6), 0);
        CHECK.due("10 burnt at once", x.smith(0, 7), 1);
    }

    private static void judged(BlownNext x, String which, int first, int why, int counted, int done, int burnt) {
        int[] due = {first, why, counted, done, burnt};
        for (int what = 0; what < 5; what++) {
            CHECK.due("11 " + which + " judge(0, " + what + ")", x.judge(0, what), due[what]);
        }
    }

    private static void told() {
        BlownNext x = Check.streetOf("smith 60 heat 50 piece 3;smith 60 heat 50 piece 1;burnt 1;");
        x.minute(0, 1);
        Check.row(x, 0, 3, 0, 3, 2, 0, 0, 0, 2, 1);
        // behind: 45 45; strokes 2 and 1, 40 40; 95 35; 90 30; 145 25, where the stroke that counted is done
        judged(x, "all", -1, 0, 3, 2, 0);
        CHECK.due("11 nothing is done", x.count(1), 1);
        CHECK.due("11 no strokes", x.smith(0, 6), 1);
        CHECK.due("12 perform", x.perform(0), 4);
        CHECK.due("12 minute", x.count(1), 5);
        CHECK.due("12 heat", x.smith(0, 2), 145);
        CHECK.due("12 done", x.count(2), 2);
        x = Check.streetOf("smith 60 cool 30 heat 99;blows 0 0;");
        x.minute(0, 1);
        x.minute(1, 0);
        x.minute(1, 0);
        CHECK.due("10 burnt ahead of the row", x.count(3), 1);
        Check.row(x, 0, 0, 0, 0, 0, 1, 1, 0, 1, 0);
        judged(x, "burnt anew", -1, 0, 1, 0, 1);
        Check.row(x, 0, 0);
        judged(x, "no minutes", -1, 0, 0, 0, 0);
        CHECK.due("12 no minutes", x.perform(0), 0);
        CHECK.due("11 row 4", x.judge(4, 0), -2);
        CHECK.due("11 row -1", x.judge(-1, 0), -2);
        CHECK.due("11 what 5", x.judge(0, 5), -2);
        CHECK.due("11 what -1", x.judge(0, -1), -2);
        CHECK.due("11 what ahead of missing", x.judge(1, 5), -2);
        CHECK.due("11 missing", x.judge(1, 0), -6);
        CHECK.due("12 row 4", x.perform(4), -2);
        CHECK.due("12 row -1", x.perform(-1), -2);
        CHECK.due("12 missing", x.perform(3), -6);
    }

    private static void why(String which, int first, int why, long... numbers) {
        BlownNext x = Check.streetOf("smith 1 heat 50;smith 1 heat 50;");
        Check.row(x, 0, 3, numbers);
        CHECK.due("11 first: " + which, x.judge(0, 0), first);
        CHECK.due("11 why: " + which, x.judge(0, 1), why);
        CHECK.due("12 as far as they can: " + which, x.perform(0), first < 0 ? numbers.length / 2 : first);
        CHECK.due("12 minute: " + which, x.count(1), first < 0 ? numbers.length / 2 : first);
    }

    private static void whyNot() {
        why("pulls: others", 0, 1, 4, 0);
        why("strikes: others", 0, 1, 0, 4);
        why("pulls: below 0", 0, 1, -1, 0);
        why("strikes: below 0", 0, 1, 0, -4);
        why("pulls: a high bit alone", 0, 1, 1L << 32, 0);
        why("strikes: the highest bit", 0, 1, 0, Long.MIN_VALUE);
        why("both", 0, 2, 3, 2);
        why("others ahead of both", 0, 1, 1, 5);
        why("no second", 0, 3, 3);
        why("others that pull ahead of no second", 0, 1, 4);
        why("second minute", 1, 2, 1, 2, 1, 1, 9, 9);
        why("third minute", 2, 3, 1, 2, 0, 0, 0);
        why("all can be", -1, 0, 1, 2, 2, 1, 3, 0, 0, 3);
    }

    private static void custom() {
        // 0 strikes and then blows 1, whose fire is cold; 1 blows 0 as long as that stays below HIGH
        BlownNext x = Check.streetOf("smith 8 heat 50 piece 1;smith 51 heat 17 piece 1;");
        CHECK.due("13 custom(1)", x.custom(1), 1);
        // minute 1: 0 strikes, 1 would bring 0 to 101: rests: 45, 12; 2: 0 pulls: 15, 1 pulls (96): 91; 3: 18; 4: 21
        CHECK.due("13 custom(4)", x.custom(4), 1);
        CHECK.due("13 custom(5)", x.custom(5), 2);
        CHECK.due("13 nothing is done", x.count(1), 0);
        CHECK.due("14 live(1)", x.live(1), 1);
        CHECK.due("14 heat 0", x.smith(0, 2), 45);
        CHECK.due("14 heat 1", x.smith(1, 2), 12);
        CHECK.due("14 live(1)", x.live(1), 0);
        CHECK.due("14 heat 0 blown", x.smith(0, 2), 91);
        CHECK.due("14 heat 1 blown", x.smith(1, 2), 15);
        CHECK.due("14 live(3)", x.live(3), 1);
        CHECK.due("14 minute", x.count(1), 5);
        CHECK.due("13 custom(0)", x.custom(0), -3);
        CHECK.due("13 custom(201)", x.custom(201), -3);
        CHECK.due("13 custom(200)", x.custom(200), 2);
        CHECK.due("14 live(0)", x.live(0), -3);
        CHECK.due("14 live(-1)", x.live(-1), -3);
        CHECK.due("14 live(201)", x.live(201), -3);
        CHECK.due("14 live(200)", x.live(200), 0);
        CHECK.due("14 minute", x.count(1), 205);
        x = Check.streetOf("smith 50 heat 50 piece 0;blows 0 0;");
        x.live(1);
        CHECK.due("14 up to HIGH", x.smith(0, 2), 95);
        x = Check.streetOf("smith 51 heat 50 piece 0;blows 0 0;");
        x.live(1);
        CHECK.due("14 not above HIGH", x.smith(0, 2), 45);
    }

    private static void days() {
        BlownNext x = Check.streetOf("smith 9 heat 50 piece 20;blows 0 0;");
        // draws of seed 1: 16838, 38526, 10113, 50283
        CHECK.due("15 day(1, 4)", x.day(1, 4), 1);
        CHECK.due("15 heat", x.smith(0, 2), 30);
        CHECK.due("15 minute", x.count(1), 4);
        x = Check.streetOf("smith 9 heat 50 piece 20;smith 9 heat 50 piece 20;");
        CHECK.due("15 each by numbers", x.day(1, 2), 1);
        CHECK.due("15 first one struck", x.smith(0, 6), 1);
        CHECK.due("15 second one rested", x.smith(1, 6), 0);
        CHECK.due("15 day(1, 0)", x.day(1, 0), -3);
        CHECK.due("15 day(1, 61)", x.day(1, 61), -3);
        CHECK.due("15 day(1, -1)", x.day(1, -1), -3);
        CHECK.due("15 minute", x.count(1), 2);
        x.day(-5, 60);
        CHECK.due("15 minute", x.count(1), 62);
        int seed = 77;
        x = Check.streetOf("smith 9 heat 150 high 200 piece 20;blows 0 0;");
        BlownNext y = Check.streetOf("smith 9 heat 150 high 200 piece 20;blows 0 0;");
        int counted = 0;
        long drawn = seed;
        for (int m = 0; m < 30; m++) {
            drawn = drawn * 1103515245L + 12345L & 0xffffffffL;
            long thing = (drawn >> 16) % 3;
            counted += y.minute(thing == 1 ? 1 : 0, thing == 2 ? 1 : 0);
        }
        CHECK.due("15 as minutes", x.day(seed, 30), counted);
        CHECK.due("15 heat as by minutes", x.smith(0, 2), y.smith(0, 2));
    }

    private static void lastMinute() {
        BlownNext x = Check.streetOf("smith 1 heat 50;smith 1 heat 50;");
        for (int k = 0; k < 49; k++) {
            x.live(200);
        }
        CHECK.due("14 live(200) too long", x.live(200), -5);
        CHECK.due("13 custom(200) too long", x.custom(200), -5);
        CHECK.due("13 custom(199)", x.custom(199) >= 0 ? 1 : 0, 1);
        x.live(198);
        CHECK.due("10 minute 9998", x.count(1), 9998);
        CHECK.due("15 day(1, 2)", x.day(1, 2), -5);
        Check.row(x, 0, 0, 0, 0, 0, 0);
        CHECK.due("11 the second can't be", x.judge(0, 0), 1);
        CHECK.due("11 why 4", x.judge(0, 1), 4);
        CHECK.due("12 one", x.perform(0), 1);
        CHECK.due("12 none", x.perform(0), 0);
        CHECK.due("10 minute(0, 0)", x.minute(0, 0), -5);
        CHECK.due("10 sets ahead of it", x.minute(4, 0), -3);
        Check.row(x, 0, 0, 1, 1);
        CHECK.due("11 both ahead of 4", x.judge(0, 1), 2);
        Check.row(x, 0, 0, 1);
        CHECK.due("11 no second ahead of 4", x.judge(0, 1), 3);
        CHECK.due("14 live(1)", x.live(1), -5);
        CHECK.due("14 live(0)", x.live(0), -3);
        CHECK.due("13 custom(1)", x.custom(1), -5);
        CHECK.due("15 day(1, 1)", x.day(1, 1), -5);
        CHECK.due("15 day(1, 61)", x.day(1, 61), -3);
        CHECK.due("31 lazy(0, 1)", x.lazy(0, 1), -5);
        CHECK.due("31 lazy(0, 0)", x.lazy(0, 0), -3);
        CHECK.due("32 stranger(0, 1, 1)", x.stranger(0, 1, 1), -5);
        CHECK.due("32 stranger(0, 61, 1)", x.stranger(0, 61, 1), -3);
        CHECK.due("33 bestPlace(1, 1)", x.bestPlace(1, 1), -5);
        CHECK.due("33 bestPlace(1, 0)", x.bestPlace(1, 0), -3);
        CHECK.due("34 swapped(1, 0)", x.swapped(1, 0), -5);
        CHECK.due("34 swapped(0, 0)", x.swapped(0, 0), -3);
        x.piece(0, 1);
        x.arm(1, 25);
        CHECK.due("35 when, minute 9999 aside", x.when(0), 2);
        CHECK.due("43 minute", x.count(1), 9999);
        lastMinuteWithoutSmiths();
    }

    private static void lastMinuteWithoutSmiths() {
        BlownNext x = new BlownNext();
        for (int k = 0; k < 49; k++) {
            x.live(200);
        }
        x.live(199);
        CHECK.due("10 minute 9999", x.count(1), 9999);
        CHECK.due("13 custom(1)", x.custom(1), -5);
        CHECK.due("33 none ahead of -5", x.bestPlace(1, 1), -1);
        CHECK.due("34 swapped(1, 1)", x.swapped(1, 1), -5);
    }
}
