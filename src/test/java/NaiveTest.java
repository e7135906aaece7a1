import java.util.ArrayList;
import java.util.List;
import java.util.Random;

/** All promises: long runs of drawn calls on drawn streets, compared with the naive telling of the document. */
public final class NaiveTest {
    private static final String[] OPTIONS = {"cool", "heat", "low", "high", "piece"};
    /** What is called on steady streets: rows and rhythms most, and seldom what makes fires cold. */
    private static final int[] STEADY = {0, 1, 1, 1, 2, 4, 5, 5, 5, 5, 5, 5, 7, 7, 10, 11, 11};
    private static final int RUNS = 800;
    private static final int CALLS = 160;

    private final Random random;
    private final BlownNext real = new BlownNext();
    private final Naive naive = new Naive();
    private final List<String> told = new ArrayList<>();
    private int smiths;
    private boolean wrong;
    /** Half of the runs are about rhythms, on streets that are told anew before their fires are out. */
    private final boolean steady;

    private NaiveTest(long seed) {
        random = new Random(seed);
        steady = seed % 2 == 1;
    }

    public static void main(String[] args) {
        int bad = 0;
        for (int run = 0; run < RUNS && bad < 3; run++) {
            NaiveTest test = new NaiveTest(run);
            test.run(run);
            bad += test.wrong ? 1 : 0;
        }
        System.out.println("NaiveTest: " + RUNS + " runs, " + bad + " wrong");
        if (bad != 0) {
            System.exit(1);
        }
    }

    private void run(int number) {
        newStreet();
        for (int k = 0; k < CALLS && !wrong; k++) {
            call();
        }
        if (wrong) {
            System.out.println("run " + number + ":");
            for (String line : told) {
                System.out.println("  " + line);
            }
        }
    }

    private void due(String call, long got, long want) {
        told.add(call + " = " + got);
        if (got != want) {
            told.add("  due is " + want);
            wrong = true;
        }
    }

    private int below(int n) {
        return random.nextInt(n);
    }

    /** A number within bounds, now and then one of them, or one just outside. */
    private int around(int least, int most) {
        switch (below(14)) {
            case 0:
                return least;
            case 1:
                return most;
            case 2:
                return below(2) == 0 ? least - 1 : most + 1;
            default:
                return least + below(most - least + 1);
        }
    }

    private int some(int least, int most) {
        return least + below(most - least + 1);
    }

    private int smith() {
        return below(25) == 0 ? around(-1, 10) : below(Math.max(1, smiths));
    }

    private String option(int which, int low) {
        int[] most = {30, 200, 200, 200, 20};
        int[] usual = {8, 120, 60, 200, 6};
        int least = which == 3 ? low : 0;
        int n = below(3) > 0 ? some(Math.min(least, usual[which]), usual[which]) : some(least, most[which]);
        return " " + OPTIONS[which] + " " + Math.max(least, n);
    }

    /** A street whose fires are warm and bear something, so that rhythms hold a while. */
    private String steadyText() {
        StringBuilder b = new StringBuilder();
        int n = some(1, below(3) == 0 ? 10 : 3);
        for (int i = 0; i < n; i++) {
            int cool = some(0, 4);
            int low = below(3) == 0 ? 0 : some(0, 40);
            int high = below(3) == 0 ? 200 : some(low, 200);
            b.append("smith ").append(below(3) == 0 ? some(0, 60) : cool * some(1, 4)).append(" cool ").append(cool);
            b.append(" heat ").append(some(low, high)).append(" low ").append(low).append(" high ").append(high);
            b.append(";");
            if (below(6) == 0) {
                b.append("blows ").append(below(i + 1)).append(' ').append(below(i + 1)).append(";");
            }
        }
        return b.toString();
    }

    private String goodText() {
        if (steady) {
            return steadyText();
        }
        StringBuilder b = new StringBuilder();
        int n = below(3) == 0 ? below(11) : some(below(4) == 0 ? 0 : 1, 4);
        int dense = below(3);
        for (int i = 0; i < n; i++) {
            b.append("smith ").append(below(4) == 0 ? some(0, 60) : some(0, 15));
            int low = 20;
            for (int which = 0; which < 5; which++) {
                if (below(3) <= dense) {
                    String told = option(which, low);
                    b.append(told);
                    if (which == 2) {
                        low = Integer.parseInt(told.substring(5));
                    }
                }
            }
            b.append(";");
            while (below(3) == 0) {
                b.append("blows ").append(below(i + 1)).append(' ').append(below(i + 1)).append(";");
            }
            if (below(8) == 0) {
                b.append("\nburnt ").append(below(21)).append(";");
            }
        }
        return b.toString();
    }

    private String text() {
        StringBuilder b = new StringBuilder(goodText());
        if (below(4) == 0) {
            String signs = " \n;0159aehilmostuwbp,A" + (char) 200 + (char) 0;
            for (int k = below(3); k >= 0; k--) {
                int at = below(b.length() + 1);
                char sign = signs.charAt(below(signs.length()));
                if (below(2) == 0 || at == b.length()) {
                    b.insert(at, sign);
                } else if (below(2) == 0) {
                    b.setCharAt(at, sign);
                } else {
                    b.deleteCharAt(at);
                }
            }
        }
        return b.length() > 880 ? b.substring(0, 880) : b.toString();
    }

    private void newStreet() {
        String text = text();
        told.add("text: " + text.replace("\n", "\\n"));
        for (int from = 0; from < text.length(); from += 20) {
            int[] five = new int[5];
            for (int k = 0; k < 20; k++) {
                int c = from + k < text.length() ? text.charAt(from + k) : 32;
                five[k / 4] |= c << 24 - 8 * (k % 4);
            }
            due("feed", real.feed(five[0], five[1], five[2], five[3], five[4]), naive.feed(five));
        }
        int n = below(20) == 0 ? around(0, 900) : text.length();
        due("street(" + n + ")", real.street(n), naive.street(n));
        due("fault(0)", real.fault(0), naive.fault(0));
        due("fault(1)", real.fault(1), naive.fault(1));
        lookAround();
    }

    private void lookAround() {
        for (int what = -1; what < 10; what++) {
            due("count(" + what + ")", real.count(what), naive.count(what));
        }
        smiths = real.count(0);
        for (int i = 0; i < smiths; i++) {
            for (int what = 0; what < 10; what++) {
                due("smith(" + i + ", " + what + ")", real.smith(i, what), naive.smith(i, what));
            }
        }
    }

    private int set() {
        return below(20) == 0 ? random.nextInt() : below(1 << smiths);
    }

    private long numberFor(int kind, int i) {
        switch (kind) {
            case 0:
                return below(12) == 0 ? random.nextLong() : below(1 << smiths) & below(1 << smiths);
            case 1:
                return below(10) == 0 ? random.nextLong() : below(4096) >> below(12);
            default:
                return Math.max(0, real.smith(i, 2) - real.smith(i, 1)) + (below(3) == 0 ? below(20) : 0);
        }
    }

    private void newRow(int row) {
        int kind = steady ? 1 + below(2) : below(3);
        int n = kind == 0 ? some(0, 20) : below(20) == 0 ? around(0, 40) : smiths;
        int sort = around(0, 3);
        due("numbers(" + row + ", " + sort + ", " + n + ")", real.numbers(row, sort, n), naive.numbers(row, sort, n));
        for (int i = 0; i < n && i < 40; i++) {
            long v = numberFor(kind, i);
            due("write(" + row + ", " + i + ", " + v + ")", real.write(row, i, v), naive.write(row, i, v));
        }
        if (kind == 2 && below(3) == 0) {
            seenAfter(row);
        }
    }

    /** HEATS that do come by some set. */
    private void seenAfter(int row) {
        int pull = set();
        due("image(1)", real.image(1), naive.image(1));
        due("minute(" + pull + ", 0)", real.minute(pull, 0), naive.minute(pull, 0));
        due("copy(" + row + ")", real.copy(row), naive.copy(row));
        due("restore(1)", real.restore(1), naive.restore(1));
        due("seen(" + row + ")", real.seen(row), naive.seen(row));
    }

    private void call() {
        int row = below(25) == 0 ? around(0, 3) : below(2);
        switch (steady ? STEADY[below(STEADY.length)] : below(12)) {
            case 0:
                change();
                break;
            case 1:
                newRow(row);
                break;
            case 2:
                minutes(row);
                break;
            case 3:
                byCustom();
                break;
            case 4:
                ropesAndRings();
                break;
            case 5:
            case 6:
                rhythms(row);
                break;
            case 7:
            case 8:
            case 9:
                sought(row);
                break;
            case 10:
                images(row);
                break;
            default:
                if (below(steady ? 2 : 4) == 0) {
                    newStreet();
                } else {
                    lookAround();
                }
        }
    }

    private void change() {
        int i = smith();
        int j = smith();
        int v = around(0, 60);
        int s = around(0, 20);
        switch (below(3)) {
            case 0:
                due("rope(" + i + ", " + j + ")", real.rope(i, j), naive.rope(i, j));
                break;
            case 1:
                due("arm(" + i + ", " + v + ")", real.arm(i, v), naive.arm(i, v));
                break;
            default:
                due("piece(" + i + ", " + s + ")", real.piece(i, s), naive.piece(i, s));
        }
    }

    private void minutes(int row) {
        int pull = set();
        int strike = below(20) == 0 ? set() : set() & ~pull;
        int what = around(0, 4);
        int seed = random.nextInt();
        int n = around(1, 60);
        switch (below(5)) {
            case 0:
                due("minute(" + pull + ", " + strike + ")", real.minute(pull, strike), naive.minute(pull, strike));
                break;
            case 1:
                due("judge(" + row + ", " + what + ")", real.judge(row, what), naive.judge(row, what));
                break;
            case 2:
                due("perform(" + row + ")", real.perform(row), naive.perform(row));
                break;
            case 3:
                due("day(" + seed + ", " + n + ")", real.day(seed, n), naive.day(seed, n));
                break;
            default:
                for (int k = 0; k < 5; k++) {
                    due("judge(" + row + ", " + k + ")", real.judge(row, k), naive.judge(row, k));
                }
        }
    }

    private void byCustom() {
        int n = below(3) == 0 ? around(1, 200) : some(1, 12);
        if (below(3) == 0) {
            due("live(" + n + ")", real.live(n), naive.live(n));
        } else {
            due("custom(" + n + ")", real.custom(n), naive.custom(n));
        }
    }

    private void ropesAndRings() {
        int i = smith();
        int j = smith();
        due("ring(" + i + ")", real.ring(i), naive.ring(i));
        due("rings()", real.rings(), naive.rings());
        due("steps(" + i + ", " + j + ")", real.steps(i, j), naive.steps(i, j));
        due("unblown()", real.unblown(), naive.unblown());
        due("blowers(" + i + ")", real.blowers(i), naive.blowers(i));
    }

    private void rhythms(int row) {
        int length = around(1, 12);
        int step = around(0, Math.max(0, length - 1));
        int what = around(0, 1);
        int k = around(-1, 3);
        switch (below(7)) {
            case 0:
                due("holds(" + row + ", " + length + ", " + what + ")", real.holds(row, length, what), naive.holds(row, length, what));
                break;
            case 1:
                due("even(" + row + ", " + length + ")", real.even(row, length), naive.even(row, length));
                break;
            case 2:
                due("wave(" + length + ", " + step + ")", real.wave(length, step), naive.wave(length, step));
                break;
            case 3:
                due("bestWave(" + length + ")", real.bestWave(length), naive.bestWave(length));
                break;
            case 4:
                bestRound();
                break;
            case 5:
                if (smiths < 7) {
                    due("peace(" + what + ")", real.peace(what), naive.peace(what));
                }
                break;
            default:
                if (smiths < 7) {
                    due("selfish(" + k + ")", real.selfish(k), naive.selfish(k));
                }
        }
    }

    private void bestRound() {
        int fits = smiths == 0 ? 10 : 10 / smiths;
        int length = below(5) == 0 ? around(1, 10) : some(1, Math.max(1, fits));
        int what = below(3) == 0 ? 0 : below(8) == 0 ? around(1, 20) : 10 + smith();
        due("bestRound(" + length + ", " + what + ")", real.bestRound(length, what), naive.bestRound(length, what));
    }

    private void sought(int row) {
        int i = smith();
        int n = below(3) == 0 ? around(1, 200) : some(1, 15);
        int blast = around(0, 60);
        int heat = around(0, 200);
        int what = around(0, 1);
        int way = below(3) == 0 ? 0 : below(8) == 0 ? around(1, 20) : 10 + i;
        boolean pulls = below(2) == 0;
        switch (below(10)) {
            case 0:
                due("soonest()", real.soonest(), naive.soonest());
                break;
            case 1:
                due("seen(" + row + ")", real.seen(row), naive.seen(row));
                break;
            case 2:
                due("sure(" + row + ", " + pulls + ")", real.sure(row, pulls), naive.sure(row, pulls));
                break;
            case 3:
                due("ropes(" + way + ")", real.ropes(way), naive.ropes(way));
                break;
            case 4:
                due("lazy(" + i + ", " + n + ")", real.lazy(i, n), naive.lazy(i, n));
                break;
            case 5:
                due("stranger(" + i + ", " + blast + ", " + n + ")", real.stranger(i, blast, n), naive.stranger(i, blast, n));
                break;
            case 6:
                due("bestPlace(" + blast + ", " + n + ")", real.bestPlace(blast, n), naive.bestPlace(blast, n));
                break;
            case 7:
                due("swapped(" + n + ", " + what + ")", real.swapped(n, what), naive.swapped(n, what));
                break;
            case 8:
                due("when(" + i + ")", real.when(i), naive.when(i));
                break;
            default:
                due("warm(" + i + ", " + heat + ")", real.warm(i, heat), naive.warm(i, heat));
                due("cold(" + i + ")", real.cold(i), naive.cold(i));
        }
    }

    private void images(int row) {
        int i = around(0, 1);
        switch (below(3)) {
            case 0:
                due("image(" + i + ")", real.image(i), naive.image(i));
                break;
            case 1:
                due("restore(" + i + ")", real.restore(i), naive.restore(i));
                smiths = real.count(0);
                break;
            default:
                due("copy(" + row + ")", real.copy(row), naive.copy(row));
        }
    }
}
