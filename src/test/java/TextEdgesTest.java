import java.util.Arrays;

/** Boundary cases of THE STREET as a TEXT: the bounds of its numbers, its TOKENS, its FAULTS (promises 1 to 4). */
public final class TextEdgesTest {
    private static final Check CHECK = new Check("TextEdgesTest");
    private static final Edge EDGE = new Edge(CHECK);
    private static final String NINE = "smith 0;".repeat(9);
    private static final String TEN = "smith 0;".repeat(10);

    public static void main(String[] args) {
        withoutText();
        tapeFull();
        bytesHighestFirst();
        streetsLength();
        fullText();
        cutTexts();
        emptyTexts();
        blasts();
        cools();
        heats();
        lows();
        highs();
        highWithout();
        pieces();
        losses();
        tenSmiths();
        blowsTold();
        blowsNext();
        laterOnes();
        blanks();
        words();
        digits();
        sign();
        highBytes();
        order();
        placesOfLine();
        theEnd();
        firstAlongTheText();
        leastKind();
        faultsOfOthers();
        rowsAndImagesStay();
        CHECK.end();
    }

    /** A text that is read: what smith() tells of the latest SMITH. */
    private static void good(String text, int lines, int what, int due) {
        BlownNext x = Edge.worked();
        x.street(0);
        CHECK.due("3 street of " + text, Check.tell(x, text), lines);
        CHECK.due("43 LINES of " + text, x.count(7), lines);
        CHECK.due("3 MINUTE behind " + text, x.count(1), 0);
        CHECK.due("4 no FAULT in " + text, x.fault(0), 0);
        CHECK.due("4 no place in " + text, x.fault(1), -1);
        CHECK.due("5 smith(.., " + what + ") of " + text, x.smith(x.count(0) - 1, what), due);
    }

    /** A text with a FAULT: the code, the FAULT, its place; THE TAPE is empty then, all else stays. */
    private static void fault(String text, int kind, int place) {
        BlownNext x = Edge.worked();
        x.image(1);
        x.street(0);
        x.restore(1);
        long[] were = Edge.street(x);
        CHECK.due("3 street of " + text, Check.tell(x, text), -30 - kind);
        CHECK.due("4 FAULT of " + text, x.fault(0), kind);
        CHECK.due("4 place in " + text, x.fault(1), place);
        CHECK.due("3 THE TAPE is empty behind " + text, x.count(6), 0);
        long[] are = Edge.street(x);
        CHECK.due("3 all stays behind " + text, Arrays.equals(were, are) ? 1 : 0, 1);
    }

    /** "without one: no SMITHS"; "No SMITHS". */
    private static void withoutText() {
        BlownNext x = Edge.fresh();
        int[] counts = {0, 0, 0, 0, 0, 0, 0, 0, 20};
        for (int what = 0; what < 9; what++) {
            CHECK.due("1 count(" + what + ")", x.count(what), counts[what]);
        }
        CHECK.due("4 no FAULT at first", x.fault(0), 0);
        CHECK.due("4 no place at first", x.fault(1), -1);
        for (int what = 0; what < 10; what++) {
            CHECK.due("5 none such, " + what, x.smith(0, what), -2);
        }
    }

    /** feed: "-5: it would have more than 900". */
    private static void tapeFull() {
        BlownNext x = Edge.fresh();
        for (int k = 1; k <= 44; k++) {
            CHECK.due("2 feed", x.feed(0, 0, 0, 0, 0), 20 * k);
        }
        CHECK.due("2 880 bytes", x.count(6), 880);
        CHECK.due("2 just 900", x.feed(0, 0, 0, 0, 0), 900);
        CHECK.due("43 900 bytes", x.count(6), 900);
        EDGE.keeps("2 more than 900", Edge::fullTape, -5, y -> y.feed(-1, -1, -1, -1, -1));
        EDGE.changes("2 not more than 900", Edge::worked, 40, y -> y.feed(-1, -1, -1, -1, -1));
        x = Edge.fullTape();
        CHECK.due("3 street(900)", x.street(900), 90);
        CHECK.due("3 THE TAPE is empty", x.count(6), 0);
        CHECK.due("2 from the beginning", x.feed(0x20202020, 0x20202020, 0x20202020, 0x20202020, 0x2020203b), 20);
        CHECK.due("3 nothing is left of the old text", x.street(20), -32);
        CHECK.due("4 its place", x.fault(1), 19);
    }

    /** feed: "the highest of each int first". */
    private static void bytesHighestFirst() {
        BlownNext x = Edge.fresh();
        x.feed('s' << 24 | 'm' << 16 | 'i' << 8 | 't', 'h' << 24 | '4' << 16 | ';' << 8 | ' ', 0, 0, 0);
        CHECK.due("2 seven bytes", x.street(7), 1);
        CHECK.due("2 BLAST", x.smith(0, 0), 4);
        x.feed(0x20202020, 0x20202020, 0x20202020, 0x20202020, 0xff202020);
        CHECK.due("2 a byte above 127", x.street(20), -31);
        CHECK.due("2 where it is", x.fault(1), 16);
    }

    /** street: "-3: n is below 0 or above what there is (THE TAPE stays)". */
    private static void streetsLength() {
        int[] below = {-1, Integer.MIN_VALUE};
        int[] above = {21, 900, 901, Integer.MAX_VALUE};
        for (int n : below) {
            EDGE.keeps("3 street(" + n + ")", Edge::worked, -3, x -> x.street(n));
        }
        for (int n : above) {
            EDGE.keeps("3 street(" + n + ") of 20", Edge::worked, -3, x -> x.street(n));
        }
        EDGE.keeps("3 street(901) of 900", Edge::fullTape, -3, x -> x.street(901));
        EDGE.keeps("3 street(1) of none", Edge::two, -3, x -> x.street(1));
        EDGE.keeps("3 street(1) of a new object", Edge::fresh, -3, x -> x.street(1));
        EDGE.changes("3 street(20) of 20", Edge::worked, 1, x -> x.street(20));
        EDGE.changes("3 street(0) of 20", Edge::worked, 0, x -> x.street(0));
        EDGE.changes("3 street(0) of none", Edge::two, 0, x -> x.street(0));
        BlownNext x = Edge.worked();
        CHECK.due("3 street(19)", x.street(19), 1);
        CHECK.due("3 empty then, what was not read too", x.count(6), 0);
        CHECK.due("3 MINUTE is 0", x.count(1), 0);
        CHECK.due("3 one SMITH", x.count(0), 1);
        CHECK.due("3 what is lost is as without", x.count(8), 20);
        CHECK.due("3 nothing was BURNT", x.count(3), 0);
        CHECK.due("3 his PIECE never", x.smith(0, 7), 0);
        x = Edge.worked();
        CHECK.due("11 as if done", x.judge(1, 2), 1);
        CHECK.due("13 as if done", x.custom(9), 2);
        CHECK.due("3 a street behind them", x.street(20), 1);
        CHECK.due("3 nothing was BURNT in it", x.count(3), 0);
        CHECK.due("3 no strokes", x.smith(0, 6), 0);
        x = Edge.last();
        CHECK.due("3 at MINUTE 9999", x.street(20), 1);
        CHECK.due("3 MINUTE is 0 again", x.count(1), 0);
    }

    /** "a TEXT of at most 900 bytes". */
    private static void fullText() {
        BlownNext x = Edge.fullTape();
        CHECK.due("3 90 LINES", x.street(900), 90);
        CHECK.due("43 90 LINES", x.count(7), 90);
        CHECK.due("43 the last one strikes", x.count(8), 7);
        x = Edge.fullTape();
        CHECK.due("3 without its last byte", x.street(899), -32);
        CHECK.due("4 at its end", x.fault(1), 899);
        x = Edge.fullTape();
        CHECK.due("3 89 LINES", x.street(890), 89);
        CHECK.due("43 the last one strikes", x.count(8), 12);
        fault(" ".repeat(895) + "smith", 2, 900);
        fault("smith" + " ".repeat(895), 2, 900);
        fault("a".repeat(900), 2, 0);
        fault("smith " + "0".repeat(894), 1, 6);
        fault(" ".repeat(899) + ",", 1, 899);
        fault(" ".repeat(899) + "s", 2, 899);
    }

    /** "The first n bytes": a TOKEN goes on to n at most. */
    private static void cutTexts() {
        String text = "smith 12 cool 30;burnt 4;";
        int[] due = {0, -32, -32, -32, -32, -32, -32, -32, -32, -32, -32, -32, -32, -32, -32, -32, -32, 1, -32, -32, -32, -32,
            -32, -32, -32, 2};
        int[] places = {-1, 0, 0, 0, 0, 5, 6, 7, 8, 9, 9, 9, 9, 13, 14, 15, 16, -1, 17, 17, 17, 17, 22, 23, 24, -1};
        for (int n = 0; n <= text.length(); n++) {
            BlownNext x = Edge.fresh();
            Check.feed(x, text);
            CHECK.due("3 the first " + n, x.street(n), due[n]);
            CHECK.due("4 place in the first " + n, x.fault(1), places[n]);
        }
    }

    /** "{ LINE ; }": none at all. */
    private static void emptyTexts() {
        String[] texts = {"", " ", "\n", " \n \n\n ", " ".repeat(900), "\n".repeat(900)};
        for (String text : texts) {
            BlownNext x = Edge.two();
            CHECK.due("3 no LINES", Check.tell(x, text), 0);
            CHECK.due("3 no SMITHS", x.count(0), 0);
            CHECK.due("4 no FAULT", x.fault(0), 0);
            CHECK.due("4 no place", x.fault(1), -1);
        }
    }

    /** "BLAST 0 to 60". */
    private static void blasts() {
        good("smith 0;", 1, 0, 0);
        good("smith 1;", 1, 0, 1);
        good("smith 59;", 1, 0, 59);
        good("smith 60;", 1, 0, 60);
        fault("smith 61;", 3, 6);
        fault("smith 999;", 3, 6);
        fault("smith -1;", 1, 6);
    }

    /** "COOL 0 to 30 (5 without)". */
    private static void cools() {
        good("smith 9 cool 0;", 1, 1, 0);
        good("smith 9 cool 29;", 1, 1, 29);
        good("smith 9 cool 30;", 1, 1, 30);
        good("smith 9;", 1, 1, 5);
        fault("smith 9 cool 31;", 3, 13);
        fault("smith 9 cool -1;", 1, 13);
    }

    /** "HEAT now 0 to 200 (0)". */
    private static void heats() {
        good("smith 9 heat 0;", 1, 2, 0);
        good("smith 9 heat 199;", 1, 2, 199);
        good("smith 9 heat 200;", 1, 2, 200);
        good("smith 9;", 1, 2, 0);
        fault("smith 9 heat 201;", 3, 13);
    }

    /** "LOW 0 to 200 (20)". */
    private static void lows() {
        good("smith 9 low 0;", 1, 3, 0);
        good("smith 9 low 199;", 1, 3, 199);
        good("smith 9 low 200;", 1, 3, 200);
        good("smith 9;", 1, 3, 20);
        fault("smith 9 low 201;", 3, 12);
    }

    /** "HIGH LOW to 200". */
    private static void highs() {
        good("smith 9 low 50 high 50;", 1, 4, 50);
        good("smith 9 low 50 high 51;", 1, 4, 51);
        good("smith 9 low 50 high 199;", 1, 4, 199);
        good("smith 9 low 50 high 200;", 1, 4, 200);
        fault("smith 9 low 50 high 49;", 3, 20);
        fault("smith 9 low 50 high 201;", 3, 20);
        good("smith 9 low 0 high 0;", 1, 4, 0);
        good("smith 9 low 200 high 200;", 1, 4, 200);
        fault("smith 9 low 200 high 199;", 3, 21);
        good("smith 9 high 20;", 1, 4, 20);
        fault("smith 9 high 19;", 3, 13);
    }

    /** "(100; LOW, if that is more)". */
    private static void highWithout() {
        good("smith 9;", 1, 4, 100);
        good("smith 9 low 99;", 1, 4, 100);
        good("smith 9 low 100;", 1, 4, 100);
        good("smith 9 low 101;", 1, 4, 101);
        good("smith 9 low 200;", 1, 4, 200);
        good("smith 9 low 101 piece 2;", 1, 4, 101);
    }

    /** "strokes for his PIECE 0 to 20 (3)". */
    private static void pieces() {
        good("smith 9 piece 0;", 1, 5, 0);
        good("smith 9 piece 0;", 1, 9, 1);
        good("smith 9 piece 1;", 1, 9, 0);
        good("smith 9 piece 19;", 1, 5, 19);
        good("smith 9 piece 20;", 1, 5, 20);
        good("smith 9;", 1, 5, 3);
        good("smith 9;", 1, 6, 0);
        fault("smith 9 piece 21;", 3, 14);
    }

    private static void loss(String text, int due) {
        BlownNext x = Check.streetOf(text);
        CHECK.due("43 strokes that are lost: " + text, x.count(8), due);
    }

    /** "burnt: how many strokes are lost .., 0 to 20 (20)". */
    private static void losses() {
        loss("burnt 0;", 0);
        loss("burnt 1;", 1);
        loss("burnt 19;", 19);
        loss("burnt 20;", 20);
        loss("smith 9;", 20);
        fault("burnt 21;", 3, 6);
    }

    /** "SMITHS are numbered from 0 on as they come, 10 at most"; "4 the first TOKEN of an 11th smith". */
    private static void tenSmiths() {
        good(NINE, 9, 8, 0);
        good(TEN, 10, 8, 0);
        BlownNext x = Check.streetOf(NINE + "smith 7;");
        CHECK.due("43 ten", x.count(0), 10);
        CHECK.due("5 the last has number 9", x.smith(9, 0), 7);
        CHECK.due("5 none has number 10", x.smith(10, 0), -2);
        fault(TEN + "smith 0;", 4, 80);
        fault(TEN + "burnt 3; smith 0;", 4, 89);
        fault(TEN + "smith", 4, 80);
        fault(TEN + "smith 0;smith 0;", 4, 80);
        good(TEN + "burnt 3;", 11, 8, 0);
    }

    /** "3 .. (blows: a SMITH that was not told ahead)". */
    private static void blowsTold() {
        fault("blows 0 0;", 3, 6);
        fault("blows 0 0;smith 1;", 3, 6);
        good("smith 1;blows 0 0;", 2, 8, 0);
        fault("smith 1;blows 1 0;", 3, 14);
        fault("smith 1;blows 0 1;", 3, 16);
        fault("smith 1;blows 0 1;smith 1;", 3, 16);
        fault("smith 1;blows 1 1;", 3, 14);
        good("smith 1;smith 1;blows 1 1;", 3, 8, 1);
        good(TEN + "blows 9 9;", 11, 8, 9);
        fault(TEN + "blows 10 9;", 3, 86);
        fault(TEN + "blows 9 10;", 3, 88);
    }

    /** "without it each blows the next one's, the last SMITH of all the first one's". */
    private static void blowsNext() {
        for (int n = 1; n <= 10; n++) {
            BlownNext x = Check.streetOf("smith 0;".repeat(n));
            for (int i = 0; i < n; i++) {
                CHECK.due("5 whom " + i + " of " + n + " blows", x.smith(i, 8), i == n - 1 ? 0 : i + 1);
            }
        }
        BlownNext x = Check.streetOf("smith 1;smith 2;burnt 5;blows 0 0;smith 3;");
        CHECK.due("5 who was told", x.smith(0, 8), 0);
        CHECK.due("5 he was the last for a while", x.smith(1, 8), 2);
        CHECK.due("5 the last of all", x.smith(2, 8), 0);
    }

    /** "Later ones strike." */
    private static void laterOnes() {
        good("smith 1;smith 1;blows 1 1;blows 1 0;", 4, 8, 0);
        good("smith 1;smith 1;blows 1 0;blows 1 1;", 4, 8, 1);
        loss("burnt 20;burnt 0;", 0);
        loss("burnt 0;burnt 20;smith 1;", 20);
    }

    /** "between them blanks (10, 32)". */
    private static void blanks() {
        good("smith\n1\n;\n", 1, 0, 1);
        good("\n \nsmith  1  ;  ", 1, 0, 1);
        good("smith1cool2heat3low4high5piece6;", 1, 5, 6);
        for (int other : new int[] {0, 9, 11, 13, 31, 33, 127, 128 + 10, 128 + 32, 160}) {
            fault("smith" + (char) other + "1;", 1, 5);
            fault((char) other + "smith 1;", 1, 0);
            fault("smith 1;" + (char) other, 1, 8);
        }
        fault("smi th 1;", 2, 0);
        fault("smith 1 2;", 2, 8);
    }

    /** "words (small letters)". */
    private static void words() {
        for (int other : new int[] {'a' - 1, 'z' + 1, 'A', 'Z', 'S'}) {
            fault((char) other + " 1;", 1, 0);
            fault("smith" + (char) other + " 1;", 1, 5);
        }
        fault("a 1;", 2, 0);
        fault("z 1;", 2, 0);
        fault("smitha 1;", 2, 0);
        fault("smithsmith 1;", 2, 0);
        fault("smit 1;", 2, 0);
        fault("mith 1;", 2, 0);
        fault("blow 0 0;", 2, 0);
        fault("burn 1;", 2, 0);
        for (String word : new String[] {"smith", "blows", "burnt"}) {
            for (String other : oneLetterOff(word)) {
                fault("smith 1;" + other + " 0 0;", 2, 8);
            }
        }
        for (String word : new String[] {"cool", "heat", "low", "high", "piece"}) {
            for (String other : oneLetterOff(word)) {
                fault("smith 1 " + other + " 20;", 2, 8);
            }
        }
        fault("smith 1 coo 1;", 2, 8);
        fault("smith 1 cools 1;", 2, 8);
    }

    private static String[] oneLetterOff(String word) {
        String[] others = new String[word.length() + 2];
        for (int k = 0; k < word.length(); k++) {
            others[k] = word.substring(0, k) + 'x' + word.substring(k + 1);
        }
        others[word.length()] = word.substring(1);
        others[word.length() + 1] = word + 'x';
        return others;
    }

    /** "N (1 to 3 digits)"; "4 digits and more: at their first". */
    private static void digits() {
        good("smith 7;", 1, 0, 7);
        good("smith 07;", 1, 0, 7);
        good("smith 007;", 1, 0, 7);
        fault("smith 0007;", 1, 6);
        fault("smith 00007;", 1, 6);
        fault("smith 1000;", 1, 6);
        fault("smith 4294967297;", 1, 6);
        fault("smith /;", 1, 6);
        fault("smith 1/;", 1, 7);
        fault("smith 1:;", 1, 7);
        good("smith 10 cool 19 heat 109 low 029 high 190 piece 09;", 1, 2, 109);
    }

    /** "the sign ;". */
    private static void sign() {
        fault("smith 1:", 1, 7);
        fault("smith 1<", 1, 7);
        fault("smith 1", 2, 7);
        fault(";", 2, 0);
        fault("smith 1;;", 2, 8);
        good("smith 1;burnt 1;", 2, 0, 1);
    }

    /** Bytes have 8 bits, and those from 128 on are no signs of TOKENS. */
    private static void highBytes() {
        for (int sign : new int[] {'a', 'z', '0', '9', ';', 127}) {
            fault("smith 1;" + (char) (128 + sign), 1, 8);
        }
        fault("smith 1" + (char) (128 + '1') + ";", 1, 7);
    }

    /** "smith N [ cool N ] [ heat N ] [ low N ] [ high N ] [ piece N ]": in this order, each once. */
    private static void order() {
        String[] names = {"cool", "heat", "low", "high", "piece"};
        for (int first = 0; first < 5; first++) {
            for (int then = 0; then < 5; then++) {
                String text = "smith 1 " + names[first] + " 20 " + names[then] + " 20;";
                if (then > first) {
                    good(text, 1, then + 1, 20);
                } else {
                    fault(text, 2, 12 + names[first].length());
                }
            }
        }
        good("smith 1 cool 2 heat 3 low 4 high 5 piece 6;", 1, 1, 2);
        fault("smith 1 burnt 2;", 2, 8);
        fault("smith 1 smith 2;", 2, 8);
        fault("smith cool 2;", 2, 6);
    }

    /** "2 it can't stand there", at each place of the LINES. */
    private static void placesOfLine() {
        fault("1;", 2, 0);
        fault("cool 1;", 2, 0);
        fault("smith;", 2, 5);
        fault("smith 1 cool;", 2, 12);
        fault("smith 1 cool heat 2;", 2, 13);
        fault("smith 1 piece 2 3;", 2, 16);
        fault("smith 1;blows;", 2, 13);
        fault("smith 1;blows 0;", 2, 15);
        fault("smith 1;blows 0 0 0;", 2, 18);
        fault("smith 1;blows x 0;", 2, 14);
        fault("smith 1;blows 0 x;", 2, 16);
        fault("burnt;", 2, 5);
        fault("burnt x;", 2, 6);
        fault("burnt 1 2;", 2, 8);
        fault("burnt 1 burnt 2;", 2, 8);
    }

    /** "(the end: the text's length)". */
    private static void theEnd() {
        String[] texts = {"smith", "smith 1", "smith 1 cool", "smith 1 cool 1", "smith 1;blows", "smith 1;blows 0",
            "smith 1;blows 0 0", "burnt", "burnt 1"};
        for (String text : texts) {
            fault(text, 2, text.length());
            fault(text + " ", 2, text.length() + 1);
            fault(text + "\n \n", 2, text.length() + 3);
        }
        good("smith 1;", 1, 0, 1);
    }

    /** "the first along the text". */
    private static void firstAlongTheText() {
        fault("smith 61,", 3, 6);
        fault("smith x,", 2, 6);
        fault("x 61,", 2, 0);
        fault("smith 1,x 61;", 1, 7);
        fault("smith 61 0000;", 3, 6);
        fault("smith 61 x;", 3, 6);
        fault("smith 1 cool 31 heat 201;", 3, 13);
        fault("blows 5 6;", 3, 6);
        fault("smith 1;blows 0 6 6;", 3, 16);
        fault("burnt 21" + ";smith 1".repeat(11), 3, 6);
        fault(TEN + "smith 61;", 4, 80);
        fault(TEN + "smith,", 4, 80);
        fault(NINE + "smith 61;smith 1;", 3, 78);
    }

    /** "of one TOKEN the least kind". */
    private static void leastKind() {
        fault("smith 1 9999;", 1, 8);
        fault("9999;", 1, 0);
        fault("smith 9999;", 1, 6);
        fault("999;", 2, 0);
        fault("smith 1 999;", 2, 8);
        fault("smith 0;blows 0 0 999;", 2, 18);
        // the SIGN is missing: a word can't stand there, whichever it is
        fault(NINE + "smith 0 smith 0;", 2, 80);
        fault(TEN + "smiths 0;", 2, 80);
    }

    /** street: "(all stays with a FAULT)", the ROWS OF NUMBERS and the IMAGES too. */
    private static void rowsAndImagesStay() {
        for (String text : new String[] {",", ";", "smith 0;burnt 21;", TEN + "smith 1;"}) {
            BlownNext x = Edge.worked();
            x.street(0);
            x.restore(0);
            x.minute(4, 2);
            BlownNext y = Edge.worked();
            y.street(0);
            y.restore(0);
            y.minute(4, 2);
            CHECK.due("3 a FAULT", Check.tell(x, text) < -30 ? 1 : 0, 1);
            CHECK.due("28 the ROW stays", x.seen(0), 1);
            // a text without LINES makes all like again, but for what was kept
            x.image(1);
            y.image(1);
            x.street(0);
            y.street(0);
            CHECK.due("3 all stays", Arrays.equals(Edge.all(x), Edge.all(y)) ? 1 : 0, 1);
        }
    }

    /** fault: "NONE for others"; "of the latest street() that was read". */
    private static void faultsOfOthers() {
        for (int what : new int[] {-1, 2, 10, Integer.MIN_VALUE, Integer.MAX_VALUE}) {
            EDGE.keeps("4 fault(" + what + ")", Edge::worked, -1, x -> x.fault(what));
        }
        EDGE.keeps("4 fault(0)", Edge::worked, 3, x -> x.fault(0));
        EDGE.keeps("4 fault(1)", Edge::worked, 6, x -> x.fault(1));
        BlownNext x = Edge.worked();
        CHECK.due("3 not read", x.street(21), -3);
        CHECK.due("4 the one that was read", x.fault(0), 3);
        CHECK.due("3 read", x.street(20), 1);
        CHECK.due("4 it has none", x.fault(0), 0);
        CHECK.due("4 no place", x.fault(1), -1);
        int kind = 1;
        for (String text : new String[] {",", ";", "burnt 21;", TEN + "smith 1;"}) {
            x = Edge.fresh();
            CHECK.due("3 -30 less " + kind, Check.tell(x, text), -30 - kind);
            kind++;
        }
    }
}
