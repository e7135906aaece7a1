import java.util.ArrayList;
import java.util.Arrays;
import java.util.HashSet;
import java.util.List;
import java.util.Set;
import java.util.regex.Matcher;
import java.util.regex.Pattern;

/**
 * The document once more, in the slowest and most literal way (all sets, all rhythms, all permutations, met states in
 * sets), so that both can be compared on runs that nobody has worked out by hand.
 */
final class Naive {
    static final class Man implements Cloneable {
        int blast;
        int cool = 5;
        int heat;
        int low = 20;
        int high = -1;
        int need = 3;
        int has;
        int burnt;
        int to = -1;

        Man again() {
            Man m = new Man();
            m.blast = blast;
            m.cool = cool;
            m.heat = heat;
            m.low = low;
            m.high = high;
            m.need = need;
            m.has = has;
            m.burnt = burnt;
            m.to = to;
            return m;
        }

        boolean done() {
            return has == need;
        }

        boolean workable() {
            return low <= heat && heat <= high;
        }
    }

    static final class Scene {
        List<Man> men = new ArrayList<>();
        int minute;
        int lines;
        int loss = 20;
        /** The MINUTE of each burning, also of PIECES that are there no more. */
        List<Integer> burntWhen = new ArrayList<>();

        Scene again() {
            Scene s = new Scene();
            for (Man m : men) {
                s.men.add(m.again());
            }
            s.minute = minute;
            s.lines = lines;
            s.loss = loss;
            s.burntWhen.addAll(burntWhen);
            return s;
        }

        int n() {
            return men.size();
        }

        int done() {
            int k = 0;
            for (Man m : men) {
                k += m.done() ? 1 : 0;
            }
            return k;
        }

        int burnt() {
            return burntWhen.size();
        }

        int minute(Set<Integer> pull, Set<Integer> strike, int[] also) {
            int counted = 0;
            int[] comes = also.clone();
            for (int i = 0; i < n(); i++) {
                Man m = men.get(i);
                if (strike.contains(i) && m.workable() && !m.done()) {
                    m.has++;
                    counted++;
                }
                if (pull.contains(i)) {
                    comes[m.to] += m.blast;
                }
            }
            for (int i = 0; i < n(); i++) {
                Man m = men.get(i);
                m.heat += comes[i];
                m.heat -= m.cool;
                if (m.heat < 0) {
                    m.heat = 0;
                }
                if (m.heat > 200) {
                    m.heat = 200;
                }
            }
            for (Man m : men) {
                if (!m.done() && m.has > 0 && m.heat > m.high) {
                    m.burnt++;
                    burntWhen.add(minute);
                    m.has = m.has - loss < 0 ? 0 : m.has - loss;
                }
            }
            minute++;
            return counted;
        }

        int customMinute(int lazy, int fire, int blast) {
            Set<Integer> pull = new HashSet<>();
            Set<Integer> strike = new HashSet<>();
            for (int i = 0; i < n(); i++) {
                Man m = men.get(i);
                if (i != lazy) {
                    if (m.workable() && !m.done()) {
                        strike.add(i);
                    } else if (!(men.get(m.to).heat + m.blast > men.get(m.to).high)) {
                        pull.add(i);
                    }
                }
            }
            int[] also = new int[n()];
            if (fire >= 0 && !(men.get(fire).heat + blast > men.get(fire).high)) {
                also[fire] = blast;
            }
            return minute(pull, strike, also);
        }

        int customDone(int n, int lazy, int fire, int blast) {
            Scene s = again();
            for (int k = 0; k < n; k++) {
                s.customMinute(lazy, fire, blast);
            }
            return s.done();
        }

        String key() {
            StringBuilder b = new StringBuilder();
            for (Man m : men) {
                b.append(m.heat).append(',').append(m.has).append(';');
            }
            return b.toString();
        }
    }

    private final List<Integer> tape = new ArrayList<>();
    private Scene now = new Scene();
    private final Scene[] images = new Scene[2];
    private final long[][] rows = new long[4][];
    private final int[] sorts = new int[4];
    private int faultKind;
    private int faultPlace = -1;

    // ---- the street

    int feed(int... five) {
        if (tape.size() > 880) {
            return -5;
        }
        for (int v : five) {
            tape.add(v >>> 24);
            tape.add(v >>> 16 & 255);
            tape.add(v >>> 8 & 255);
            tape.add(v & 255);
        }
        return tape.size();
    }

    private static final Pattern TOKEN = Pattern.compile("[a-z]+|[0-9]+|;");
    private static final String[] OPTIONS = {"cool", "heat", "low", "high", "piece"};

    private static final class Fault extends RuntimeException {
        private static final long serialVersionUID = 1;
        final int kind;
        final int place;

        Fault(int kind, int place) {
            this.kind = kind;
            this.place = place;
        }
    }

    /** What stands at a place of the text: the token, and where it begins and ends. */
    private static final class Scan {
        final String text;
        int at;

        Scan(String text) {
            this.text = text;
        }

        private int start() {
            int p = at;
            while (p < text.length() && (text.charAt(p) == ' ' || text.charAt(p) == '\n')) {
                p++;
            }
            return p;
        }

        String peek() {
            int p = start();
            if (p == text.length()) {
                return "";
            }
            Matcher m = TOKEN.matcher(text);
            if (!m.find(p) || m.start() != p) {
                throw new Fault(1, p);
            }
            if (m.group().matches("[0-9]{4,}")) {
                throw new Fault(1, p);
            }
            return m.group();
        }

        boolean sees(String what) {
            return peek().equals(what);
        }

        void take(String what) {
            if (!sees(what)) {
                throw new Fault(2, start());
            }
            at = start() + what.length();
        }

        int number(int least, int most) {
            String t = peek();
            if (!t.matches("[0-9]+")) {
                throw new Fault(2, start());
            }
            int v = Integer.parseInt(t);
            if (v < least || v > most) {
                throw new Fault(3, start());
            }
            at = start() + t.length();
            return v;
        }
    }

    private static Scene read(String text) {
        Scene s = new Scene();
        Scan scan = new Scan(text);
        while (!scan.sees("")) {
            if (scan.sees("smith")) {
                if (s.n() == 10) {
                    throw new Fault(4, scan.start());
                }
                scan.take("smith");
                Man m = new Man();
                m.blast = scan.number(0, 60);
                for (String option : OPTIONS) {
                    if (scan.sees(option)) {
                        scan.take(option);
                        switch (option) {
                            case "cool" -> m.cool = scan.number(0, 30);
                            case "heat" -> m.heat = scan.number(0, 200);
                            case "low" -> m.low = scan.number(0, 200);
                            case "high" -> m.high = scan.number(m.low, 200);
                            default -> m.need = scan.number(0, 20);
                        }
                    }
                }
                if (m.high < 0) {
                    m.high = m.low > 100 ? m.low : 100;
                }
                s.men.add(m);
            } else if (scan.sees("blows")) {
                scan.take("blows");
                int who = scan.number(0, s.n() - 1);
                s.men.get(who).to = scan.number(0, s.n() - 1);
            } else {
                scan.take("burnt");
                s.loss = scan.number(0, 20);
            }
            scan.take(";");
            s.lines++;
        }
        for (int i = 0; i < s.n(); i++) {
            if (s.men.get(i).to < 0) {
                s.men.get(i).to = (i + 1) % s.n();
            }
        }
        return s;
    }

    int street(int n) {
        if (n < 0 || n > tape.size()) {
            return -3;
        }
        StringBuilder b = new StringBuilder();
        for (int k = 0; k < n; k++) {
            b.append((char) (int) tape.get(k));
        }
        tape.clear();
        try {
            now = read(b.toString());
            faultKind = 0;
            faultPlace = -1;
            return now.lines;
        } catch (Fault f) {
            faultKind = f.kind;
            faultPlace = f.place;
            return -30 - f.kind;
        }
    }

    int fault(int what) {
        return what == 0 ? faultKind : what == 1 ? faultPlace : -1;
    }

    private boolean no(int i) {
        return i < 0 || i >= now.n();
    }

    int smith(int i, int what) {
        if (no(i) || what < 0 || what > 9) {
            return -2;
        }
        Man m = now.men.get(i);
        return new int[] {m.blast, m.cool, m.heat, m.low, m.high, m.need, m.has, m.burnt, m.to, m.done() ? 1 : 0}[what];
    }

    int blowers(int i) {
        if (no(i)) {
            return -2;
        }
        int bits = 0;
        for (int j = 0; j < now.n(); j++) {
            if (now.men.get(j).to == i) {
                bits += 1 << j;
            }
        }
        return bits;
    }

    int rope(int i, int to) {
        if (no(i) || no(to)) {
            return -2;
        }
        int old = now.men.get(i).to;
        now.men.get(i).to = to;
        return old;
    }

    int arm(int i, int blast) {
        if (no(i)) {
            return -2;
        }
        if (blast < 0 || blast > 60) {
            return -3;
        }
        int old = now.men.get(i).blast;
        now.men.get(i).blast = blast;
        return old;
    }

    int piece(int i, int strokes) {
        if (no(i)) {
            return -2;
        }
        if (strokes < 0 || strokes > 20) {
            return -3;
        }
        Man m = now.men.get(i);
        int old = m.has;
        m.has = 0;
        m.burnt = 0;
        m.need = strokes;
        return old;
    }

    // ---- minutes

    private Set<Integer> set(long bits) {
        Set<Integer> s = new HashSet<>();
        for (int k = 0; k < 64; k++) {
            if ((bits >>> k & 1) == 1) {
                s.add(k);
            }
        }
        return s;
    }

    private boolean foreign(Set<Integer> s) {
        for (int k : s) {
            if (no(k)) {
                return true;
            }
        }
        return false;
    }

    private boolean common(Set<Integer> a, Set<Integer> b) {
        Set<Integer> both = new HashSet<>(a);
        both.retainAll(b);
        return !both.isEmpty();
    }

    int minute(int pull, int strike) {
        if (foreign(set(pull)) || foreign(set(strike)) || common(set(pull), set(strike))) {
            return -3;
        }
        if (now.minute == 9999) {
            return -5;
        }
        return now.minute(set(pull), set(strike), new int[now.n()]);
    }

    /** first that can't be, why, counted, done, burnt; on the scene given. */
    private int[] tell(Scene s, long[] row) {
        int counted = 0;
        int before = s.burnt();
        int first = -1;
        int why = 0;
        for (int k = 0; k < (row.length + 1) / 2 && why == 0; k++) {
            Set<Integer> pull = set(row[2 * k]);
            boolean second = 2 * k + 1 < row.length;
            Set<Integer> strike = second ? set(row[2 * k + 1]) : new HashSet<>();
            why = foreign(pull) ? 1 : !second ? 3 : foreign(strike) ? 1 : common(pull, strike) ? 2 : s.minute == 9999 ? 4 : 0;
            if (why != 0) {
                first = k;
            } else {
                counted += s.minute(pull, strike, new int[s.n()]);
            }
        }
        return new int[] {first, why, counted, s.done(), s.burnt() - before};
    }

    int judge(int row, int what) {
        if (row < 0 || row > 3 || what < 0 || what > 4) {
            return -2;
        }
        return rows[row] == null ? -6 : tell(now.again(), rows[row])[what];
    }

    int perform(int row) {
        if (row < 0 || row > 3) {
            return -2;
        }
        if (rows[row] == null) {
            return -6;
        }
        int from = now.minute;
        tell(now, rows[row]);
        return now.minute - from;
    }

    private int late(int n, int most) {
        return n < 1 || n > most ? -3 : now.minute + n > 9999 ? -5 : 0;
    }

    int custom(int n) {
        return late(n, 200) != 0 ? late(n, 200) : now.customDone(n, -1, -1, 0);
    }

    int live(int n) {
        if (late(n, 200) != 0) {
            return late(n, 200);
        }
        int counted = 0;
        for (int k = 0; k < n; k++) {
            counted += now.customMinute(-1, -1, 0);
        }
        return counted;
    }

    int day(int seed, int minutes) {
        if (late(minutes, 60) != 0) {
            return late(minutes, 60);
        }
        long x = seed & 0xffffffffL;
        int counted = 0;
        for (int k = 0; k < minutes; k++) {
            Set<Integer> pull = new HashSet<>();
            Set<Integer> strike = new HashSet<>();
            for (int i = 0; i < now.n(); i++) {
                x = (x * 1103515245L + 12345) % (1L << 32);
                if (x < 0) {
                    x += 1L << 32;
                }
                long drawn = x / 65536 % 3;
                if (drawn == 1) {
                    pull.add(i);
                }
                if (drawn == 2) {
                    strike.add(i);
                }
            }
            counted += now.minute(pull, strike, new int[now.n()]);
        }
        return counted;
    }

    // ---- rings

    private List<Integer> way(int i) {
        List<Integer> w = new ArrayList<>();
        int at = i;
        while (!w.contains(at)) {
            w.add(at);
            at = now.men.get(at).to;
        }
        return w;
    }

    private Set<Integer> ringOf(int i) {
        List<Integer> w = way(i);
        int again = now.men.get(w.get(w.size() - 1)).to;
        return new HashSet<>(w.subList(w.indexOf(again), w.size()));
    }

    int ring(int i) {
        return no(i) ? -2 : ringOf(i).size();
    }

    int rings() {
        Set<Set<Integer>> all = new HashSet<>();
        for (int i = 0; i < now.n(); i++) {
            all.add(ringOf(i));
        }
        return all.size();
    }

    int steps(int i, int to) {
        return no(i) || no(to) ? -2 : way(i).indexOf(to);
    }

    int unblown() {
        int bits = 0;
        for (int i = 0; i < now.n(); i++) {
            if (blowers(i) == 0) {
                bits += 1 << i;
            }
        }
        return bits;
    }

    // ---- rhythms

    /** behind how many minutes they don't hold, and by whom; all fires at once, until a state comes again. */
    private int[] hold(long[] numbers, int length) {
        Scene s = now.again();
        Set<String> met = new HashSet<>();
        for (int t = 0;; t++) {
            StringBuilder key = new StringBuilder();
            key.append(t % length).append(':');
            for (Man m : s.men) {
                key.append(m.heat).append(' ');
            }
            if (!met.add(key.toString())) {
                return new int[] {-1, -1};
            }
            Set<Integer> pull = new HashSet<>();
            for (int i = 0; i < s.n(); i++) {
                if ((numbers[i] >> t % length & 1) == 1) {
                    pull.add(i);
                }
            }
            s.minute(pull, new HashSet<>(), new int[s.n()]);
            for (int i = 0; i < s.n(); i++) {
                if (!s.men.get(i).workable()) {
                    return new int[] {t + 1, i};
                }
            }
        }
    }

    private int badRow(int row, boolean asMany) {
        if (row < 0 || row > 3) {
            return -2;
        }
        if (rows[row] == null) {
            return -6;
        }
        return asMany && rows[row].length != now.n() ? -7 : 0;
    }

    int holds(int row, int length, int what) {
        if (row < 0 || row > 3 || what < 0 || what > 1) {
            return -2;
        }
        int bad = badRow(row, true);
        if (bad != 0) {
            return bad;
        }
        return length < 1 || length > 12 ? -3 : hold(rows[row], length)[what];
    }

    int even(int row, int length) {
        int bad = badRow(row, true);
        if (bad != 0) {
            return bad;
        }
        if (length < 1 || length > 12) {
            return -3;
        }
        int bits = 0;
        for (int i = 0; i < now.n(); i++) {
            int comes = 0;
            for (int t = 0; t < length; t++) {
                for (int j = 0; j < now.n(); j++) {
                    if (now.men.get(j).to == i && (rows[row][j] >> t & 1) == 1) {
                        comes += now.men.get(j).blast;
                    }
                }
            }
            if (comes == length * now.men.get(i).cool) {
                bits += 1 << i;
            }
        }
        return bits;
    }

    int wave(int length, int step) {
        if (length < 1 || length > 12 || step < 0 || step >= length) {
            return -3;
        }
        long[] numbers = new long[now.n()];
        for (int i = 0; i < now.n(); i++) {
            for (int t = 0; t < length; t++) {
                if ((t - i * step) % length == 0) {
                    numbers[i] |= 1L << t;
                }
            }
        }
        return hold(numbers, length)[0];
    }

    int bestWave(int length) {
        if (length < 1 || length > 12) {
            return -3;
        }
        int best = 0;
        for (int step = 1; step < length; step++) {
            int a = wave(length, step);
            int b = wave(length, best);
            if (b != -1 && (a == -1 || a > b)) {
                best = step;
            }
        }
        return best;
    }

    int bestRound(int length, int what) {
        if (what != 0 && no(what - 10)) {
            return -2;
        }
        if (length < 1 || length > 10) {
            return -3;
        }
        if (length * now.n() > 10) {
            return -4;
        }
        long[] best = null;
        long[] numbers = new long[now.n()];
        boolean more = true;
        while (more) {
            if ((best == null || pulls(numbers) < pulls(best)) && hold(numbers, length)[0] == -1) {
                best = numbers.clone();
            }
            int at = now.n() - 1;
            while (at >= 0 && numbers[at] == (1L << length) - 1) {
                numbers[at] = 0;
                at--;
            }
            more = at >= 0;
            if (more) {
                numbers[at]++;
            }
        }
        return best == null ? -1 : what == 0 ? pulls(best) : (int) best[what - 10];
    }

    private static int pulls(long[] numbers) {
        int k = 0;
        for (long v : numbers) {
            k += Long.bitCount(v);
        }
        return k;
    }

    private int pay(int i, int bits) {
        Scene s = now.again();
        s.minute(set(bits), new HashSet<>(), new int[s.n()]);
        return (s.men.get(i).workable() ? 2 : 0) - (set(bits).contains(i) ? 1 : 0);
    }

    int peace(int what) {
        if (what != 0 && what != 1) {
            return -2;
        }
        int best = -1;
        int most = 0;
        for (int bits = 0; bits < 1 << now.n(); bits++) {
            int sum = 0;
            for (int i = 0; i < now.n(); i++) {
                sum += pay(i, bits);
            }
            if (best < 0 || sum > most) {
                best = bits;
                most = sum;
            }
        }
        return what == 0 ? most : best;
    }

    int selfish(int k) {
        List<Integer> found = new ArrayList<>();
        for (int bits = 0; bits < 1 << now.n(); bits++) {
            boolean is = true;
            for (int i = 0; i < now.n() && is; i++) {
                int other = set(bits).contains(i) ? bits - (1 << i) : bits + (1 << i);
                is = pay(i, other) <= pay(i, bits);
            }
            if (is) {
                found.add(bits);
            }
        }
        return k == -1 ? found.size() : k >= 0 && k < found.size() ? found.get(k) : -1;
    }

    // ---- sought

    int soonest() {
        if (now.n() > 3) {
            return -4;
        }
        if (now.done() == now.n()) {
            return 0;
        }
        Set<String> met = new HashSet<>();
        List<Scene> last = new ArrayList<>();
        last.add(now.again());
        met.add(now.key());
        for (int minutes = 1;; minutes++) {
            List<Scene> next = new ArrayList<>();
            boolean all = false;
            for (Scene s : last) {
                for (int code = 0; code < Math.pow(3, s.n()); code++) {
                    Set<Integer> pull = new HashSet<>();
                    Set<Integer> strike = new HashSet<>();
                    int rest = code;
                    for (int i = 0; i < s.n(); i++) {
                        if (rest % 3 == 1) {
                            pull.add(i);
                        }
                        if (rest % 3 == 2) {
                            strike.add(i);
                        }
                        rest /= 3;
                    }
                    Scene t = s.again();
                    t.minute(pull, strike, new int[s.n()]);
                    all |= t.done() == t.n();
                    if (met.add(t.key())) {
                        next.add(t);
                    }
                }
            }
            if (all) {
                return minutes;
            }
            if (met.size() > 3000) {
                return -4;
            }
            if (next.isEmpty()) {
                return -1;
            }
            last = next;
        }
    }

    private List<Integer> ways(int row) {
        List<Integer> found = new ArrayList<>();
        for (int bits = 0; bits < 1 << now.n(); bits++) {
            Scene s = now.again();
            s.minute(set(bits), new HashSet<>(), new int[s.n()]);
            boolean is = true;
            for (int i = 0; i < s.n(); i++) {
                is &= s.men.get(i).heat == rows[row][i];
            }
            if (is) {
                found.add(bits);
            }
        }
        return found;
    }

    int seen(int row) {
        int bad = badRow(row, true);
        return bad != 0 ? bad : ways(row).size();
    }

    int sure(int row, boolean pulls) {
        int bad = badRow(row, true);
        if (bad != 0) {
            return bad;
        }
        List<Integer> w = ways(row);
        int bits = 0;
        for (int i = 0; i < now.n(); i++) {
            boolean is = !w.isEmpty();
            for (int s : w) {
                is &= set(s).contains(i) == pulls;
            }
            if (is) {
                bits += 1 << i;
            }
        }
        return bits;
    }

    private static void permute(List<Integer> head, int n, List<List<Integer>> all) {
        if (head.size() == n) {
            all.add(new ArrayList<>(head));
            return;
        }
        for (int k = 0; k < n; k++) {
            if (!head.contains(k)) {
                head.add(k);
                permute(head, n, all);
                head.remove(head.size() - 1);
            }
        }
    }

    int ropes(int what) {
        if (what != 0 && no(what - 10)) {
            return -2;
        }
        if (now.n() > 7) {
            return -4;
        }
        if (now.n() == 0) {
            return -5;
        }
        List<List<Integer>> all = new ArrayList<>();
        permute(new ArrayList<>(), now.n(), all);
        List<Integer> best = null;
        int least = 0;
        for (List<Integer> to : all) {
            int at = 0;
            int length = 0;
            do {
                at = to.get(at);
                length++;
            } while (at != 0);
            int sum = 0;
            for (int i = 0; i < now.n(); i++) {
                sum += Math.abs(now.men.get(i).blast - now.men.get(to.get(i)).cool);
            }
            if (length == now.n() && (best == null || sum < least)) {
                best = to;
                least = sum;
            }
        }
        return what == 0 ? least : best.get(what - 10);
    }

    int lazy(int i, int n) {
        if (no(i)) {
            return -2;
        }
        return late(n, 200) != 0 ? late(n, 200) : custom(n) - now.customDone(n, i, -1, 0);
    }

    int stranger(int i, int blast, int n) {
        if (no(i)) {
            return -2;
        }
        if (blast < 0 || blast > 60) {
            return -3;
        }
        return late(n, 200) != 0 ? late(n, 200) : now.customDone(n, -1, now.men.get(i).to, blast) - custom(n);
    }

    int bestPlace(int blast, int n) {
        if (now.n() == 0) {
            return -1;
        }
        if (blast < 0 || blast > 60) {
            return -3;
        }
        if (late(n, 200) != 0) {
            return late(n, 200);
        }
        int best = -1;
        for (int i = 0; i < now.n(); i++) {
            if (best < 0 || stranger(i, blast, n) > stranger(best, blast, n)) {
                best = i;
            }
        }
        return best;
    }

    int swapped(int n, int what) {
        if (what != 0 && what != 1) {
            return -2;
        }
        if (late(n, 200) != 0) {
            return late(n, 200);
        }
        int most = 0;
        int pair = -1;
        for (int i = 0; i < now.n(); i++) {
            for (int j = i + 1; j < now.n(); j++) {
                Scene s = now.again();
                int kept = s.men.get(i).blast;
                s.men.get(i).blast = s.men.get(j).blast;
                s.men.get(j).blast = kept;
                int more = s.customDone(n, -1, -1, 0) - custom(n);
                if (more > most) {
                    most = more;
                    pair = 10 * i + j;
                }
            }
        }
        return what == 0 ? most : pair;
    }

    int when(int i) {
        if (no(i)) {
            return -2;
        }
        Scene s = now.again();
        int k = 0;
        while (!s.men.get(i).done() && k < 300) {
            s.customMinute(-1, -1, 0);
            k++;
        }
        return s.men.get(i).done() ? k : -1;
    }

    int warm(int i, int heat) {
        if (no(i)) {
            return -2;
        }
        if (heat < 0 || heat > 200) {
            return -3;
        }
        Scene s = now.again();
        for (int k = 0; k < 1000; k++) {
            if (s.men.get(i).heat >= heat) {
                return k;
            }
            s.minute(set((1 << s.n()) - 1), new HashSet<>(), new int[s.n()]);
        }
        return -1;
    }

    int cold(int i) {
        if (no(i)) {
            return -2;
        }
        Scene s = now.again();
        for (int k = 0; k < 1000; k++) {
            if (s.men.get(i).heat < s.men.get(i).low) {
                return k;
            }
            s.minute(new HashSet<>(), new HashSet<>(), new int[s.n()]);
        }
        return -1;
    }

    // ---- rows of numbers, images

    int numbers(int row, int sort, int n) {
        if (row < 0 || row > 3 || sort < 0 || sort > 3) {
            return -2;
        }
        if (n < 0 || n > 40) {
            return -3;
        }
        rows[row] = new long[n];
        sorts[row] = sort;
        return 0;
    }

    private void put(int row, int i, long v) {
        int gone = 64 - (8 << sorts[row]);
        rows[row][i] = v << gone >> gone;
    }

    long write(int row, int i, long v) {
        int bad = badRow(row, false);
        if (bad != 0) {
            return bad;
        }
        if (i < 0 || i >= rows[row].length) {
            return -7;
        }
        put(row, i, v);
        return rows[row][i];
    }

    int copy(int row) {
        int bad = badRow(row, false);
        if (bad != 0) {
            return bad;
        }
        if (rows[row].length < now.n()) {
            return -7;
        }
        for (int i = 0; i < now.n(); i++) {
            put(row, i, now.men.get(i).heat);
        }
        return now.n();
    }

    int image(int i) {
        if (i != 0 && i != 1) {
            return -2;
        }
        images[i] = now.again();
        return 0;
    }

    int restore(int i) {
        if (i != 0 && i != 1) {
            return -2;
        }
        if (images[i] == null) {
            return -5;
        }
        now = images[i].again();
        return 0;
    }

    int count(int what) {
        int bits = 0;
        int heats = 0;
        for (int i = 0; i < now.n(); i++) {
            bits += now.men.get(i).workable() ? 1 << i : 0;
            heats += now.men.get(i).heat;
        }
        int[] all = {now.n(), now.minute, now.done(), now.burnt(), bits, heats, tape.size(), now.lines, now.loss};
        return what < 0 || what > 8 ? -1 : all[what];
    }

    @Override
    public String toString() {
        return Arrays.toString(rows) + now.key();
    }
}
