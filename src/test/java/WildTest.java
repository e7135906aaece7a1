import java.util.Random;

/** Any arguments in any state: no call throws, and all end. */
public final class WildTest {
    private static final int[] EDGES = {Integer.MIN_VALUE, Integer.MIN_VALUE + 1, -1000, -2, -1, 0, 1, 2, 3, 4, 9, 10, 11, 12, 13,
        19, 20, 21, 39, 40, 41, 60, 61, 199, 200, 201, 900, 901, 9999, 10000, 1 << 16, Integer.MAX_VALUE - 10, Integer.MAX_VALUE};
    private static final String[] STREETS = {"", "smith 0;", "smith 60 cool 0 heat 200 low 200;", "burnt 0;smith 7;smith 9 heat 40;",
        "smith 9 heat 50;smith 30 cool 30 heat 60;smith 4 heat 90;blows 2 2;", "smith 3 low 0;smith 6 low 0 high 0;smith 60 piece 20;",
        "smith 9;smith 8;smith 7;smith 6;smith 5;smith 4;smith 3;", "smith 9;smith 8;smith 7;smith 6;smith 5;smith 4;smith 3;smith 2;",
        "smith 9 heat 50;smith 8 heat 50;smith 7 heat 50;smith 6 heat 50;smith 5 heat 50;smith 4 heat 50;smith 3 heat 50;smith 2;smith 1;smith 0;"};
    private static final int RUNS = 600;
    private static final int CALLS = 480;

    private final Random random;
    private final BlownNext x = new BlownNext();

    private WildTest(long seed) {
        random = new Random(seed);
    }

    public static void main(String[] args) {
        int bad = 0;
        for (int run = 0; run < RUNS; run++) {
            WildTest test = new WildTest(run);
            for (int k = 0; k < CALLS; k++) {
                try {
                    test.call();
                } catch (RuntimeException | StackOverflowError | OutOfMemoryError e) {
                    System.out.println("WildTest: run " + run + ", call " + k + ": " + e);
                    e.printStackTrace(System.out);
                    bad++;
                }
            }
        }
        System.out.println("WildTest: " + RUNS + " runs, " + bad + " calls that threw");
        if (bad != 0) {
            System.exit(1);
        }
    }

    private int any() {
        switch (random.nextInt(4)) {
            case 0:
                return random.nextInt();
            case 1:
                return EDGES[random.nextInt(EDGES.length)];
            default:
                return random.nextInt(14) - 1;
        }
    }

    private void call() {
        int a = any();
        int b = any();
        int c = any();
        switch (random.nextInt(46)) {
            case 0 -> x.feed(a, b, c, any(), any());
            case 1 -> x.street(a);
            case 2 -> x.fault(a);
            case 3 -> x.smith(a, b);
            case 4 -> x.blowers(a);
            case 5 -> x.rope(a, b);
            case 6 -> x.arm(a, b);
            case 7 -> x.piece(a, b);
            case 8 -> x.minute(a, b);
            case 9 -> x.judge(a, b);
            case 10 -> x.perform(a);
            case 11 -> x.custom(a);
            case 12 -> x.live(a);
            case 13 -> x.day(a, b);
            case 14 -> x.ring(a);
            case 15 -> x.rings();
            case 16 -> x.steps(a, b);
            case 17 -> x.unblown();
            case 18 -> x.holds(a, b, c);
            case 19 -> x.even(a, b);
            case 20 -> x.wave(a, b);
            case 21 -> x.bestWave(a);
            case 22 -> x.bestRound(a, b);
            case 23 -> x.peace(a);
            case 24 -> x.selfish(a);
            case 25 -> x.soonest();
            case 26 -> x.seen(a);
            case 27 -> x.sure(a, b > 0);
            case 28 -> x.ropes(a);
            case 29 -> x.lazy(a, b);
            case 30 -> x.stranger(a, b, c);
            case 31 -> x.bestPlace(a, b);
            case 32 -> x.swapped(a, b);
            case 33 -> x.when(a);
            case 34 -> x.warm(a, b);
            case 35 -> x.cold(a);
            case 36, 37 -> x.numbers(a, b, random.nextInt(3) == 0 ? c : x.count(0));
            case 38, 39 -> x.write(a, b, random.nextLong());
            case 40 -> x.copy(a);
            case 41 -> x.image(a);
            case 42 -> x.restore(a);
            case 43 -> x.count(a);
            default -> Check.tell(x, STREETS[random.nextInt(STREETS.length)]);
        }
    }
}
