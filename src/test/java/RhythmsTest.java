/** Promises 20 to 26: rhythms, waves, the best round, peace, the selfish. */
public final class RhythmsTest {
    private static final Check CHECK = new Check("RhythmsTest");
    private static final String NARROW = "heat 25 low 20 high 30";

    public static void main(String[] args) {
        holds();
        holdsAtBounds();
        refusals();
        even();
        waves();
        bestRound();
        peaceAndSelfish();
        noSmiths();
        CHECK.end();
    }

    private static void held(BlownNext x, String which, int length, int behind, int by) {
        CHECK.due("20 " + which, x.holds(0, length, 0), behind);
        CHECK.due("20 by whom: " + which, x.holds(0, length, 1), by);
    }

    private static void holds() {
        BlownNext x = Check.streetOf("smith 10 " + NARROW + ";smith 10 " + NARROW + ";");
        Check.row(x, 0, 0, 1, 1);
        held(x, "30 25", 2, -1, -1);
        Check.row(x, 0, 0, 2, 2);
        held(x, "20 25", 2, -1, -1);
        Check.row(x, 0, 0, 1, 1);
        held(x, "30 25 20 15", 4, 4, 0);
        held(x, "30 35", 1, 2, 0);
        Check.row(x, 0, 0, 0, 1);
        held(x, "fire 1 is not blown", 2, 2, 1);
        Check.row(x, 0, 0, 1, 0);
        held(x, "fire 0 is not blown", 2, 2, 0);
        Check.row(x, 0, 0, 5, 1);
        held(x, "fire 0 has but one of four", 4, 4, 0);
        Check.row(x, 0, 0, 5, 6);
        held(x, "20 25 30 25", 4, -1, -1);
        CHECK.due("20 nothing is done", x.count(1), 0);
        // 1 a round, so that it takes many rounds
        x = Check.streetOf("smith 6 heat 100 low 20 high 200;blows 0 0;");
        Check.row(x, 0, 3, -1);
        held(x, "up to 200 and on", 12, -1, -1);
        x = Check.streetOf("smith 6 heat 100 low 20 high 199;blows 0 0;");
        Check.row(x, 0, 3, -1);
        held(x, "up to 200", 12, 100, 0);
        x = Check.streetOf("smith 19 cool 5 heat 199 low 19;blows 0 0;");
        x.arm(0, 59);
        Check.row(x, 0, 1, 1 << 11);
        held(x, "above HIGH at once", 12, 1, 0);
    }

    private static void holdsAtBounds() {
        BlownNext x = Check.streetOf("smith 60 heat 100 low 0 high 200;blows 0 0;");
        Check.row(x, 0, 0, 1);
        held(x, "at 200", 1, -1, -1);
        held(x, "at 0 and up", 12, -1, -1);
        Check.row(x, 0, 0, 0);
        held(x, "at 0", 1, -1, -1);
        // 59 of 60 comes in 12 MINUTES: it falls by 1 in each round
        x = Check.streetOf("smith 59 heat 200 low 10 high 200;blows 0 0;");
        Check.row(x, 0, 1, 1);
        // rounds begin at 200 (where the first pull is lost in part: 145 .. ), 145 and then one less in each
        held(x, "slowly down", 12, 12 + 12 * 136, 0);
        x = Check.streetOf("smith 1 cool 0 heat 5 low 0 high 199;blows 0 0;");
        Check.row(x, 0, 1, 1);
        held(x, "slowly up", 12, 12 * 194 + 1, 0);
    }

    private static void refusals() {
        BlownNext x = Check.streetOf("smith 1;smith 1;");
        Check.row(x, 0, 0, 1, 1);
        Check.row(x, 1, 0, 1, 1, 1);
        Check.row(x, 2, 0, 1);
        CHECK.due("20 row 4", x.holds(4, 1, 0), -2);
        CHECK.due("20 row -1", x.holds(-1, 1, 0), -2);
        CHECK.due("20 what 2", x.holds(0, 1, 2), -2);
        CHECK.due("20 what -1", x.holds(0, 1, -1), -2);
        CHECK.due("20 what ahead of missing", x.holds(3, 1, 2), -2);
        CHECK.due("20 missing", x.holds(3, 0, 0), -6);
        CHECK.due("20 too many", x.holds(1, 0, 0), -7);
        CHECK.due("20 too few", x.holds(2, 13, 0), -7);
        CHECK.due("20 length 0", x.holds(0, 0, 0), -3);
        CHECK.due("20 length 13", x.holds(0, 13, 1), -3);
        CHECK.due("21 row 4", x.even(4, 1), -2);
        CHECK.due("21 row -1", x.even(-1, 1), -2);
        CHECK.due("21 missing", x.even(3, 0), -6);
        CHECK.due("21 too many", x.even(1, 0), -7);
        CHECK.due("21 too few", x.even(2, 0), -7);
        CHECK.due("21 length 0", x.even(0, 0), -3);
        CHECK.due("21 length 13", x.even(0, 13), -3);
        CHECK.due("22 length 0", x.wave(0, 0), -3);
        CHECK.due("22 length 13", x.wave(13, 0), -3);
        CHECK.due("22 step -1", x.wave(3, -1), -3);
        CHECK.due("22 step 3", x.wave(3, 3), -3);
        CHECK.due("23 length 0", x.bestWave(0), -3);
        CHECK.due("23 length 13", x.bestWave(13), -3);
        CHECK.due("24 what 1", x.bestRound(0, 1), -2);
        CHECK.due("24 what 9", x.bestRound(1, 9), -2);
        CHECK.due("24 what 12", x.bestRound(1, 12), -2);
        CHECK.due("24 what -1", x.bestRound(1, -1), -2);
        CHECK.due("24 what least", x.bestRound(1, Integer.MIN_VALUE), -2);
        CHECK.due("24 length 0", x.bestRound(0, 0), -3);
        CHECK.due("24 length 11", x.bestRound(11, 11), -3);
        CHECK.due("24 length 6", x.bestRound(6, 11), -4);
        CHECK.due("25 what 2", x.peace(2), -2);
        CHECK.due("25 what -1", x.peace(-1), -2);
    }

    private static void even() {
        BlownNext x = Check.streetOf("smith 5;smith 10;smith 5 cool 0;blows 1 0;blows 2 1;");
        // fire 0 is blown by 1, fire 1 by 0 and 2, fire 2 by none (and doesn't cool)
        Check.row(x, 0, 0, -1, 0, 0);
        CHECK.due("21 length 12, number -1", x.even(0, 12), 2 + 4);
        Check.row(x, 0, 0, 1, 2, 2);
        CHECK.due("21 length 2", x.even(0, 2), 1 + 2 + 4);
        CHECK.due("21 bits above the length", x.even(0, 1), 2 + 4);
        Check.row(x, 0, 0, 3, 3, 3);
        CHECK.due("21 too much", x.even(0, 2), 4);
    }

    private static void waves() {
        BlownNext x = Check.streetOf("smith 10 heat 30 low 20 high 30;smith 10 " + NARROW + ";");
        CHECK.due("22 wave(2, 0)", x.wave(2, 0), 1);
        CHECK.due("22 wave(2, 1)", x.wave(2, 1), -1);
        CHECK.due("23 bestWave(2)", x.bestWave(2), 1);
        CHECK.due("22 wave(3, 0)", x.wave(3, 0), 1);
        // step 1: fire 0 has 25 30 25 20 25 20 15; fire 1 has 30 25 20 25 20 15
        CHECK.due("22 wave(3, 1)", x.wave(3, 1), 6);
        // step 2: fire 0 has 25 20 25 20 15
        CHECK.due("22 wave(3, 2)", x.wave(3, 2), 5);
        CHECK.due("23 bestWave(3)", x.bestWave(3), 1);
        CHECK.due("23 bestWave(1)", x.bestWave(1), 0);
        x = Check.streetOf("smith 15 heat 20 low 10 high 31;smith 15 heat 20 low 10 high 31;smith 15 heat 20 low 10 high 31;");
        CHECK.due("22 wave(3, 0)", x.wave(3, 0), -1);
        // step 2: 0 pulls in 0, 3 .., 1 in 2, 5 .., 2 in 1, 4 ..: fire 0 (by 2): 15 25 20; 1 (by 0): 30 25 20; 2 (by 1): 15 10 20
        CHECK.due("22 wave(3, 2)", x.wave(3, 2), -1);
        x.arm(1, 14);
        // fire 2 falls by 1 in each round: 15 10 19, 14 9
        CHECK.due("22 wave(3, 2)", x.wave(3, 2), 5);
        CHECK.due("22 nothing is done", x.count(1), 0);
    }

    private static void bestRound() {
        BlownNext x = Check.streetOf("smith 10 " + NARROW + ";blows 0 0;");
        CHECK.due("24 length 1", x.bestRound(1, 0), -1);
        CHECK.due("24 length 1, number", x.bestRound(1, 10), -1);
        CHECK.due("24 length 2", x.bestRound(2, 0), 1);
        CHECK.due("24 length 2, number", x.bestRound(2, 10), 1);
        CHECK.due("24 length 4", x.bestRound(4, 0), 2);
        CHECK.due("24 length 4, number", x.bestRound(4, 10), 5);
        CHECK.due("24 length 10", x.bestRound(10, 0), 5);
        CHECK.due("24 length 10, number", x.bestRound(10, 10), 0b0101010101);
        x = Check.streetOf("smith 10 " + NARROW + ";smith 5 " + NARROW + ";smith 10 cool 0 heat 30;blows 1 0;blows 2 1;blows 0 0;");
        // fire 0 by 0 and 1, fire 1 by 2, fire 2 by none
        CHECK.due("24 three smiths", x.bestRound(3, 0), -1);
        CHECK.due("24 three smiths", x.bestRound(2, 0), 2);
        CHECK.due("24 smith 0", x.bestRound(2, 10), 1);
        CHECK.due("24 smith 1", x.bestRound(2, 11), 0);
        CHECK.due("24 smith 2", x.bestRound(2, 12), 1);
        x.arm(0, 5);
        x.arm(1, 10);
        CHECK.due("24 the stronger arm", x.bestRound(2, 11), 1);
        CHECK.due("24 the weaker arm", x.bestRound(2, 10), 0);
        x.arm(1, 5);
        CHECK.due("24 two weak ones", x.bestRound(2, 0), 3);
        CHECK.due("24 least number of smith 0", x.bestRound(2, 10), 0);
        CHECK.due("24 then of smith 1", x.bestRound(2, 11), 3);
    }

    private static void peaceAndSelfish() {
        BlownNext x = Check.streetOf("smith 10 heat 22;blows 0 0;");
        CHECK.due("25 pays", x.peace(0), 1);
        CHECK.due("25 set", x.peace(1), 1);
        CHECK.due("26 how many", x.selfish(-1), 1);
        CHECK.due("26 first", x.selfish(0), 1);
        CHECK.due("26 second", x.selfish(1), -1);
        CHECK.due("26 k -2", x.selfish(-2), -1);
        x = Check.streetOf("smith 10 heat 22;smith 10 heat 22;");
        CHECK.due("25 both pull", x.peace(0), 2);
        CHECK.due("25 set", x.peace(1), 3);
        CHECK.due("26 none pulls", x.selfish(-1), 1);
        CHECK.due("26 the empty set", x.selfish(0), 0);
        // either of two who blow fire 0 warms it; both together would bring it above HIGH
        x = Check.streetOf("smith 10 heat 22 high 30;smith 10 heat 50;blows 1 0;blows 0 0;");
        CHECK.due("25 one pulls", x.peace(0), 3);
        CHECK.due("25 the least set", x.peace(1), 1);
        CHECK.due("26 how many", x.selfish(-1), 1);
        x = Check.streetOf("smith 10 heat 90 low 90 high 95;blows 0 0;");
        // without 85, with 95: pays 1 to pull
        CHECK.due("25 HIGH", x.peace(0), 1);
        x = Check.streetOf("smith 5 heat 100;smith 0 heat 4 low 0;blows 0 0;blows 1 1;");
        CHECK.due("25 all workable", x.peace(0), 4);
        CHECK.due("25 nobody", x.peace(1), 0);
        // three who blow themselves and need it, one who does not
        x = Check.streetOf("smith 9 heat 20;smith 9 heat 50;smith 9 heat 20;blows 0 0;blows 1 1;blows 2 2;");
        CHECK.due("25 set", x.peace(1), 5);
        CHECK.due("25 pays", x.peace(0), 4);
        CHECK.due("26 set", x.selfish(0), 5);
        // a pull that changes nothing either way: cold before, cold behind
        x = Check.streetOf("smith 2 heat 0;smith 2 heat 0;blows 0 0;blows 1 1;");
        CHECK.due("26 no gain", x.selfish(0), 0);
        CHECK.due("26 no more", x.selfish(1), -1);
        // pays are alike, if one who warms his fire is helped by another: two sets
        x = Check.streetOf("smith 4 heat 20 low 19;smith 4 heat 20 low 19;blows 0 0;blows 1 0;");
        CHECK.due("26 smith 1 is idle", x.selfish(-1), 1);
        CHECK.due("26 smith 0 pulls", x.selfish(0), 1);
    }

    private static void noSmiths() {
        BlownNext x = new BlownNext();
        Check.row(x, 0, 0);
        held(x, "no smiths", 12, -1, -1);
        CHECK.due("21 no smiths", x.even(0, 1), 0);
        CHECK.due("22 no smiths", x.wave(12, 11), -1);
        CHECK.due("23 no smiths", x.bestWave(12), 0);
        CHECK.due("24 no smiths", x.bestRound(10, 0), 0);
        CHECK.due("24 no smiths, number", x.bestRound(10, 10), -2);
        CHECK.due("25 no smiths", x.peace(0), 0);
        CHECK.due("25 no smiths", x.peace(1), 0);
        CHECK.due("26 no smiths", x.selfish(-1), 1);
        CHECK.due("26 no smiths", x.selfish(0), 0);
    }
}
