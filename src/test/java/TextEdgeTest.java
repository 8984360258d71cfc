import java.util.function.Supplier;
import java.util.function.ToLongFunction;

/** Edges that term I and promises 1 to 9 name: each sentence has a test of its own. */
public final class TextEdgeTest {
    private static final Told TOLD = new Told("TextEdgeTest");
    private static final String V = Told.V;
    private static final String B = "bridge holds 9 toll 1;";
    private static final String C = "cart 5 by 0;";
    private static final String HALT = "ward 0 over 5 to halt;";
    private static final String FROST = "frost at 0;";
    // All there can be, in an order of its own: 20 LINES.
    private static final String FULL = "valley law 3 frost 50 odds 10;frost at 6;bridge holds 300 toll 9;cart 99 by 0;"
        + "ward 0 over 99 to halt;bridge holds 1 toll 0;cart 1 by 1;ward 1 over 0 to 0;frost at 0;bridge holds 50 toll 5;"
        + "cart 2 by 2;cart 3 by 0;cart 4 by 1;cart 98 by 2;cart 50 by 0;ward 2 over 98 to 1;ward 2 over 49 to 0;"
        + "ward 0 over 1 to 2;frost at 3;frost at 3;";

    public static void main(String[] args) {
        lines();
        firstLine();
        numbersOfTheValley();
        numbersOfBridges();
        numbersOfCarts();
        numbersOfWards();
        wardToAnother();
        numbersOfFrosts();
        numberedAsTheyStand();
        toldAhead();
        everyByte();
        longestTokens();
        firstByPlace();
        leastOfOnePlace();
        placeOfTheEnd();
        notATokenAnywhere();
        oneTooMany();
        tooManyMeetsOthers();
        newObject();
        feedCounts();
        feedRefused();
        feedBytes();
        endBounds();
        endRefused();
        endCutsForGood();
        valleyInPlace();
        valleyOfNone();
        valleyOfFullTape();
        valleyRefused();
        faultOfTheLatest();
        faultAheadOfAny();
        faultOfAnotherWhat();
        bridgeEdges();
        cartEdges();
        wardEdges();
        coldEdges();
        TOLD.close();
    }

    private static String times(String text, int n) {
        return text.repeat(n);
    }

    private static void right(String text, int lines) {
        SagMemory x = new SagMemory();
        TOLD.due(text, Told.tell(x, text), lines);
        TOLD.due(text + ": fault(0)", x.fault(0), 0);
        TOLD.due(text + ": fault(1)", x.fault(1), -1);
        TOLD.due(text + ": LINES", x.count(8), lines);
        TOLD.due(text + ": TAPE", x.count(9), 0);
    }

    private static void faulty(String text, int fault, int place) {
        SagMemory x = new SagMemory();
        TOLD.due(text, Told.tell(x, text), -4);
        TOLD.due(text + ": fault(0)", x.fault(0), fault);
        TOLD.due(text + ": fault(1)", x.fault(1), place);
        TOLD.due(text + ": LINES", x.count(8), 0);
        TOLD.due(text + ": TAPE", x.count(9), text.length());
    }

    // ---- term I ----

    private static void lines() {
        TOLD.says("I", "VALLEY: {LINE ;}");
        right("", 0);
        right(V, 1);
        right(FULL, 20);
        faulty(V.substring(0, 27), 1, 27);
        faulty(V + ";", 1, 28);
        faulty(";" + V, 1, 0);
        faulty(FULL.substring(0, FULL.length() - 1), 1, FULL.length() - 1);
        faulty(FULL + ";", 1, FULL.length());
    }

    private static void firstLine() {
        TOLD.says("I", "valley is the first LINE and no other");
        right(V + B, 2);
        faulty(B, 1, 0);
        faulty(FROST, 1, 0);
        faulty("cart", 1, 0);
        faulty("ward", 1, 0);
        faulty(V + V, 1, 28);
        faulty(V + B + C + "valley", 1, 62);
        TOLD.says("I", "(valley behind the first LINE, another word ahead of it)");
        faulty(V + "valley law 9", 1, 28);
        faulty("law 0 frost 5 odds 3;", 1, 0);
        faulty("x" + V, 1, 0);
    }

    /** Each number from 0 to beyond its bounds; the last allowed and the first not are among them. */
    private static void numbers(String ahead, int low, int high, String behind, ToLongFunction<SagMemory> told) {
        for (int n = 0; n <= high + 3; n++) {
            number(ahead, "" + n, behind, n >= low && n <= high ? told : null, n);
        }
        number(ahead, "000" + high, behind, high >= low ? told : null, high);
        String[] far = {"1000", "65536", "2147483647", "2147483648", "4294967296", "4294967297",
            "18446744073709551616", "18446744073709551617", "1" + "0".repeat(60)};
        for (String n : far) {
            number(ahead, n, behind, null, 0);
        }
        faulty(ahead + "-1" + behind, 1, ahead.length());
        faulty(ahead + "x" + behind, 1, ahead.length());
        faulty(ahead + ";" + behind, 1, ahead.length());
        faulty(ahead, 1, ahead.length());
    }

    private static void number(String ahead, String digits, String behind, ToLongFunction<SagMemory> told, int n) {
        String text = ahead + digits + behind;
        if (told == null) {
            faulty(text, 2, ahead.length());
            return;
        }
        SagMemory x = new SagMemory();
        TOLD.due(text, Told.tell(x, text) > 0 ? 1 : 0, 1);
        TOLD.due(text + ": number", told.applyAsLong(x), n);
    }

    private static void numbersOfTheValley() {
        TOLD.says("I", "law 0 .. 3, frost 1 .. 50, odds 0 .. 10");
        numbers("valley law ", 0, 3, " frost 5 odds 3;", x -> x.count(0));
        numbers("valley law 0 frost ", 1, 50, " odds 3;", x -> x.count(1));
        numbers("valley law 0 frost 5 odds ", 0, 10, ";", x -> x.count(2));
    }

    private static void numbersOfBridges() {
        TOLD.says("I", "bridge: holds 1 .. 300, toll 0 .. 9");
        numbers(V + "bridge holds ", 1, 300, " toll 1;", x -> x.bridge(0, 0));
        numbers(V + "bridge holds 9 toll ", 0, 9, ";", x -> x.bridge(0, 1));
    }

    private static void numbersOfCarts() {
        TOLD.says("I", "cart: load 1 .. 99, a BRIDGE told ahead");
        numbers(V + B + "cart ", 1, 99, " by 0;", x -> x.cart(0, 0));
        for (int bridges = 0; bridges <= 3; bridges++) {
            numbers(V + times(B, bridges) + "cart 5 by ", 0, bridges - 1, ";", x -> x.cart(0, 1));
        }
    }

    private static void numbersOfWards() {
        TOLD.says("I", "ward: a BRIDGE told ahead, over 0 .. 99");
        for (int bridges = 0; bridges <= 3; bridges++) {
            numbers(V + times(B, bridges) + "ward ", 0, bridges - 1, " over 5 to halt;", x -> x.ward(0, 0));
        }
        numbers(V + B + "ward 0 over ", 0, 99, " to halt;", x -> x.ward(0, 1));
    }

    private static void wardToAnother() {
        TOLD.says("I", "to another one told ahead");
        for (int bridges = 1; bridges <= 3; bridges++) {
            for (int own = 0; own < bridges; own++) {
                String ahead = V + times(B, bridges) + "ward " + own + " over 5 to ";
                for (int to = 0; to <= 4; to++) {
                    boolean another = to != own && to < bridges;
                    number(ahead, "" + to, ";", another ? x -> x.ward(0, 2) : null, to);
                }
                number(ahead, "00" + own, ";", null, 0);
                right(ahead + "halt;", bridges + 2);
                faulty(ahead + ";", 1, ahead.length());
                faulty(ahead + "-1;", 1, ahead.length());
            }
        }
        // Told behind it is not told ahead.
        faulty(V + B + "ward 0 over 5 to 1;" + B, 2, 67);
    }

    private static void numbersOfFrosts() {
        TOLD.says("I", "frost: at 0 .. 6");
        String ahead = V + B + times(C, 7) + "frost at ";
        numbers(ahead, 0, 6, ";", x -> {
            long turn = -1;
            for (int c = 0; c < 7; c++) {
                turn = x.cold(c) == 1 ? turn * 10 + c + (turn < 0 ? 10 : 0) : turn;
            }
            return turn;
        });
    }

    private static void numberedAsTheyStand() {
        TOLD.says("I", "BRIDGES 0 .. 2, CARTS 0 .. 6, WARDS 0 .. 4, FROSTS 0 .. 3 are numbered as they stand");
        SagMemory x = Told.of(FULL);
        long[][] bridges = {{300, 9}, {1, 0}, {50, 5}};
        long[][] carts = {{99, 0}, {1, 1}, {2, 2}, {3, 0}, {4, 1}, {98, 2}, {50, 0}};
        long[][] wards = {{0, 99, -1}, {1, 0, 0}, {2, 98, 1}, {2, 49, 0}, {0, 1, 2}};
        for (int i = 0; i < 3; i++) {
            TOLD.row("BRIDGE " + i, new long[] {x.bridge(i, 0), x.bridge(i, 1)}, bridges[i]);
        }
        for (int i = 0; i < 7; i++) {
            TOLD.row("CART " + i, new long[] {x.cart(i, 0), x.cart(i, 1)}, carts[i]);
        }
        for (int i = 0; i < 5; i++) {
            TOLD.row("WARD " + i, new long[] {x.ward(i, 0), x.ward(i, 1), x.ward(i, 2)}, wards[i]);
        }
        TOLD.row("cold", new long[] {x.cold(0), x.cold(1), x.cold(2), x.cold(3), x.cold(4), x.cold(5), x.cold(6)},
            1, 0, 0, 1, 0, 0, 1);
        TOLD.row("counts", new long[] {x.count(3), x.count(4), x.count(5), x.count(6), x.count(8)}, 3, 7, 5, 4, 20);
    }

    private static void toldAhead() {
        TOLD.says("I", "a BRIDGE told ahead");
        faulty(V + "cart 5 by 0;" + B, 2, 38);
        faulty(V + B + "cart 5 by 1;" + B, 2, 60);
        right(V + B + "cart 5 by 0;" + B + "cart 5 by 1;", 5);
        faulty(V + "ward 0 over 5 to halt;" + B, 2, 33);
        right(V + B + B + "ward 1 over 5 to 0;", 4);
    }

    private static void everyByte() {
        TOLD.says("I", "blanks (32, 10) aside");
        for (int b = 0; b < 256; b++) {
            String sign = "" + (char) b;
            boolean blank = b == 32 || b == 10;
            boolean letter = b >= 'a' && b <= 'z';
            if (blank) {
                right(sign, 0);
                right(V + sign, 1);
                right("valley" + sign + "law 0 frost 5 odds 3;", 1);
                right("valley law 0 frost 5 odds 3" + sign + ";", 1);
            } else {
                faulty(sign, 1, 0);
                faulty(V + sign, 1, 28);
                faulty("valley" + sign + "law 0 frost 5 odds 3;", 1, letter ? 0 : 6);
                faulty("valley law 0 frost 5 odds 10" + sign, b == ';' ? 0 : b >= '0' && b <= '9' ? 2 : 1,
                    b == ';' ? -1 : b >= '0' && b <= '9' ? 26 : 28, b == ';');
            }
        }
    }

    /** As faulty(), but for the one sign that makes it right. */
    private static void faulty(String text, int fault, int place, boolean right) {
        if (right) {
            right(text, 1);
        } else {
            faulty(text, fault, place);
        }
    }

    private static void longestTokens() {
        TOLD.says("I", "the longest: words (a .. z), numbers (digits), the sign ;");
        right("valley law0frost5odds3;bridge holds9toll1;cart5by0;ward0over5to halt;frost at6;", 5);
        faulty("val ley law 0", 1, 0);
        faulty("valleys law 0", 1, 0);
        faulty("valleylaw 0", 1, 0);
        faulty("valley law 1 0 frost", 1, 13);
        faulty("valley law 0frost5oddsx3;", 1, 18);
        faulty("valley law 1000 frost", 2, 11);
        faulty(V + B + "ward 0 over 5 tohalt;", 1, 64);
        faulty(V + B + "ward 0 over 5 to hal t;", 1, 67);
        faulty(V + B + "cart 5by 1 0;", 2, 59);
        faulty(V + "frostat 5;", 1, 28);
        // At the word's own ends.
        faulty(V + "`art", 1, 28);
        faulty(V + "car{", 1, 28);
        faulty("valley law /", 1, 11);
        faulty("valley law :", 1, 11);
        faulty("valley law 0:", 1, 12);
        faulty("valley law 0/", 1, 12);
    }

    private static void firstByPlace() {
        TOLD.says("I", "FAULTS, the first by its place (a TOKEN's first byte; the end's)");
        faulty("valley law 4 frost 0 odds x", 2, 11);
        faulty("valley law 0 frost 0 odds x", 2, 19);
        faulty("valley x 4", 1, 7);
        faulty(V + "cart 100 by 9 ? valley", 2, 33);
        faulty(V + "?" + times(B, 4), 1, 28);
        faulty(V + B + B + B + "bridge ?", 3, 94);
        faulty(V + B + B + "bridge holds 0 toll 1;" + B, 2, 85);
        faulty("   valley\n\n  law 4", 2, 17);
        faulty(V + B + "ward 7 over 100 to 9", 2, 55);
    }

    private static void leastOfOnePlace() {
        TOLD.says("I", "of one place the least");
        // A number that no number can stand for is no number out of its bounds.
        faulty("valley 99", 1, 7);
        faulty("99999", 1, 0);
        faulty(V + "bridge 999 toll", 1, 35);
        faulty(V + B + "cart 5 999", 1, 57);
        // A word that is one too many has no number to look at.
        faulty(V + times(B, 3) + "bridge", 3, 94);
        faulty(V + times(B, 3) + "bridges", 1, 94);
    }

    private static void placeOfTheEnd() {
        TOLD.says("I", "(a TOKEN's first byte; the end's)");
        String whole = V + B + C + "ward 0 over 5 to halt;frost at 6;";
        for (int n = 1; n < whole.length(); n++) {
            String begun = whole.substring(0, n);
            SagMemory x = new SagMemory();
            int got = Told.tell(x, begun);
            if (begun.endsWith(";")) {
                TOLD.due(begun, got > 0 ? 1 : 0, 1);
            } else {
                TOLD.due(begun, got, -4);
                TOLD.due(begun + ": fault(0)", x.fault(0), 1);
                // A word cut short can't stand there; else it is the end that can't.
                int place = x.fault(1);
                boolean cut = Character.isLetter(begun.charAt(n - 1)) && Character.isLetter(whole.charAt(n));
                TOLD.due(begun + ": fault(1)", place, cut ? begun.replaceAll("[a-z]+$", "").length() : n);
            }
        }
        faulty("valley law 0 frost 5 odds 3 ", 1, 28);
        faulty("valley law 0 frost 5 odds 3\n\n", 1, 29);
        faulty(V + "frost at" + " ".repeat(700 - 36), 1, 700);
    }

    private static void notATokenAnywhere() {
        TOLD.says("I", "1 a TOKEN that is none, or can't stand there");
        String[] tokens = {"valley", "law", "0", "frost", "5", "odds", "3", ";", "bridge", "holds", "9", "toll", "1", ";",
            "cart", "5", "by", "0", ";", "ward", "0", "over", "5", "to", "halt", ";", "frost", "at", "6", ";"};
        String[] others = {"?", "A", "\t", "\r", "\0", "\u00e9", "x", "halts"};
        StringBuilder ahead = new StringBuilder();
        for (String token : tokens) {
            for (String other : others) {
                faulty(ahead + other, 1, ahead.length());
                faulty(ahead + other + " " + token, 1, ahead.length());
            }
            ahead.append(token).append(' ');
        }
        right(ahead.toString(), 5);
    }

    private static void oneTooMany() {
        TOLD.says("I", "3 a 4th bridge, 8th cart, 6th ward, 5th frost, at its word");
        right(V + times(B, 3), 4);
        faulty(V + times(B, 4), 3, 94);
        right(V + B + times(C, 7), 9);
        faulty(V + B + times(C, 8), 3, 134);
        right(V + B + times(HALT, 5), 7);
        faulty(V + B + times(HALT, 6), 3, 160);
        right(V + times(FROST, 4), 5);
        faulty(V + times(FROST, 5), 3, 72);
        for (String more : new String[] {B, C, HALT, FROST}) {
            faulty(FULL + "\n" + more, 3, FULL.length() + 1);
        }
    }

    private static void tooManyMeetsOthers() {
        TOLD.says("I", "at its word");
        faulty(V + times(B, 3) + "bridge holds 0", 3, 94);
        faulty(V + times(B, 3) + "bridge;", 3, 94);
        faulty(V + B + times(C, 7) + "cart 100 by 7", 3, 134);
        faulty(V + B + times(HALT, 5) + "ward 9", 3, 160);
        faulty(V + times(FROST, 4) + "frost at 9", 3, 72);
        faulty(V + times(FROST, 4) + "frosts", 1, 72);
        faulty(V + times(FROST, 4) + "frost ? 5", 3, 72);
        faulty(V + times(FROST, 3) + "frost at 7;" + FROST, 2, 70);
    }

    // ---- promises 1 to 9 ----

    private static void newObject() {
        TOLD.says("P1", "No VALLEY");
        SagMemory x = new SagMemory();
        for (int what = 0; what <= 10; what++) {
            TOLD.due("count(" + what + ")", x.count(what), 0);
        }
        TOLD.row("no VALLEY", new long[] {x.waits(), x.loudest(), x.tolls(), x.fails(), x.least(), x.orders(), x.across(),
            x.routes(), x.safe(), x.worst(), x.forget(), x.law(), x.by(0), x.undo(), x.anew(), x.drawn(0, 0)},
            -2, -2, -2, -2, -2, -2, -2, -2, -2, -2, -2, -2, -2, -2, -2, -2);
        for (int k = 0; k < 3; k++) {
            TOLD.due("back(" + k + ")", x.back(k), -6);
        }
    }

    private static SagMemory fed(int times) {
        SagMemory x = new SagMemory();
        for (int i = 0; i < times; i++) {
            x.feed(0x20202020, 0x20202020, 0x20202020, 0x20202020, 0x20202020);
        }
        return x;
    }

    private static void feedCounts() {
        TOLD.says("P2", "Twenty bytes come behind the TAPE, four of each number, the highest first: how many it has");
        SagMemory x = new SagMemory();
        for (int i = 1; i <= 35; i++) {
            TOLD.due("feed " + i, x.feed(i, -i, 0, Integer.MAX_VALUE, Integer.MIN_VALUE), 20 * i);
            TOLD.due("count(9)", x.count(9), 20 * i);
        }
        x.end(7);
        TOLD.due("feed at 7", x.feed(1, 2, 3, 4, 5), 27);
    }

    private static void feedRefused() {
        TOLD.says("P2", "NONE, and none come, if it would have more than 700");
        for (int length = 676; length <= 700; length++) {
            int from = length;
            Supplier<SagMemory> made = () -> {
                SagMemory x = fed(35);
                x.end(from);
                return x;
            };
            if (length <= 680) {
                TOLD.due("feed at " + length, made.get().feed(1, 2, 3, 4, 5), length + 20);
            } else {
                new Look(TOLD, made).refused("feed at " + length, x -> x.feed(1, 2, 3, 4, 5), -1);
            }
        }
        // None of the twenty bytes come, nor do some of them.
        SagMemory x = fed(35);
        x.end(690);
        x.feed(-1, -1, -1, -1, -1);
        TOLD.due("end(691)", x.end(691), -1);
        TOLD.due("blanks still", x.valley(), 0);
    }

    private static void feedBytes() {
        TOLD.says("P2", "four of each number, the highest first");
        for (int place = 0; place < 40; place++) {
            int[] words = {0x20202020, 0x20202020, 0x20202020, 0x20202020, 0x20202020,
                0x20202020, 0x20202020, 0x20202020, 0x20202020, 0x20202020};
            words[place / 4] ^= 0xe0 << 24 - 8 * (place % 4);
            SagMemory x = new SagMemory();
            x.feed(words[0], words[1], words[2], words[3], words[4]);
            x.feed(words[5], words[6], words[7], words[8], words[9]);
            TOLD.due("valley() with one sign that is none", x.valley(), -4);
            TOLD.due("its place", x.fault(1), place);
        }
    }

    private static void endBounds() {
        TOLD.says("P3", "The TAPE has its first n bytes alone: n");
        for (int length = 0; length <= 20; length++) {
            for (int n = 0; n <= length; n++) {
                SagMemory x = fed(1);
                x.end(length);
                TOLD.due("end(" + n + ") of " + length, x.end(n), n);
                TOLD.due("count(9)", x.count(9), n);
            }
        }
        SagMemory full = fed(35);
        TOLD.due("end(700)", full.end(700), 700);
        TOLD.due("end(0)", full.end(0), 0);
        TOLD.due("end(0) again", full.end(0), 0);
        // The first ones are those that stay.
        SagMemory x = new SagMemory();
        Told.tape(x, V + "?");
        x.end(28);
        TOLD.due("valley() of the first 28", x.valley(), 1);
    }

    private static void endRefused() {
        TOLD.says("P3", "NONE, and nothing happens, if it has not so many, or n is below 0");
        Look look = new Look(TOLD, () -> {
            SagMemory x = Told.of(V + B + C);
            Told.tape(x, V);
            return x;
        });
        for (int n : new int[] {29, 40, 41, 700, 701, Integer.MAX_VALUE, -1, -28, Integer.MIN_VALUE}) {
            look.refused("end(" + n + ")", x -> x.end(n), -1);
        }
        TOLD.due("end(1) of an empty TAPE", new SagMemory().end(1), -1);
        TOLD.due("end(-1) of an empty TAPE", new SagMemory().end(-1), -1);
        TOLD.due("end(701) of a full TAPE", fed(35).end(701), -1);
    }

    private static void endCutsForGood() {
        TOLD.says("P3", "if it has not so many");
        SagMemory x = new SagMemory();
        Told.tape(x, V);
        x.end(12);
        TOLD.due("end(13) behind end(12)", x.end(13), -1);
        TOLD.due("end(28) behind end(12)", x.end(28), -1);
        // What comes then comes behind the first 12.
        x.feed(0x2066726f, 0x73742036, 0x206f6464, 0x7320343b, 0x3f3f3f3f);
        TOLD.due("end(28)", x.end(28), 28);
        TOLD.due("valley()", x.valley(), 1);
        TOLD.due("frost", x.count(1), 6);
        TOLD.due("odds", x.count(2), 4);
        TOLD.due("end(1) behind valley()", x.end(1), -1);
        TOLD.due("end(0) behind valley()", x.end(0), 0);
    }

    private static void valleyInPlace() {
        TOLD.says("P4", "The TAPE (empty then) is the VALLEY (in place of another), nothing done: how many LINES");
        SagMemory x = Told.of(FULL);
        x.rate(0, 7);
        for (int i = 0; i < 30; i++) {
            x.send(i % 7, -1);
        }
        TOLD.due("30 acts", x.count(7), 30);
        TOLD.due("valley()", Told.tell(x, V + B + C), 3);
        TOLD.due("TAPE", x.count(9), 0);
        TOLD.due("acts", x.count(7), 0);
        TOLD.due("undo()", x.undo(), -5);
        TOLD.row("counts", new long[] {x.count(0), x.count(1), x.count(2), x.count(3), x.count(4), x.count(5), x.count(6)},
            0, 5, 3, 1, 1, 0, 0);
        TOLD.due("goes(0)", x.goes(0), 0);
        TOLD.due("cold(0)", x.cold(0), 0);
        TOLD.due("holds", x.bridge(0, 0), 9);
        TOLD.due("ward(0, 0)", x.ward(0, 0), -2);
        TOLD.due("the same text once more", Told.tell(x, FULL), 20);
        TOLD.due("holds as told", x.bridge(0, 0), 300);
        TOLD.due("comes(0)", x.comes(0), 2);
    }

    private static void valleyOfNone() {
        TOLD.says("P4", "(0: there is none then)");
        for (String none : new String[] {"", " ", "\n", " \n".repeat(350)}) {
            SagMemory x = Told.of(FULL);
            x.send(0, -1);
            TOLD.due("valley() of blanks", Told.tell(x, none), 0);
            TOLD.due("fault(0)", x.fault(0), 0);
            TOLD.due("fault(1)", x.fault(1), -1);
            for (int what = 0; what <= 9; what++) {
                TOLD.due("count(" + what + ")", x.count(what), 0);
            }
            TOLD.due("waits()", x.waits(), -2);
            TOLD.due("undo()", x.undo(), -2);
            TOLD.due("bridge(0, 0)", x.bridge(0, 0), -2);
            TOLD.due("send(0, 0)", x.send(0, 0), -2);
        }
        right(V, 1);
        SagMemory x = Told.of(V);
        TOLD.due("one LINE is a VALLEY", x.waits(), 0);
        TOLD.due("undo() of it", x.undo(), -5);
    }

    private static void valleyOfFullTape() {
        TOLD.says("P4", "how many LINES");
        right(FULL + " ".repeat(700 - FULL.length()), 20);
        right(" ".repeat(700 - FULL.length()) + FULL, 20);
        faulty(V + " ".repeat(700 - 29) + "x", 1, 699);
        faulty(V + " ".repeat(700 - 29) + ";", 1, 699);
        faulty(V + " ".repeat(700 - 29) + "9", 1, 699);
        faulty(V + "bridge" + " ".repeat(700 - 34), 1, 700);
        faulty("valley law " + "0".repeat(689), 1, 700);
        faulty("valley law " + "9".repeat(689), 2, 11);
        faulty("v".repeat(700), 1, 0);
    }

    private static void valleyRefused() {
        TOLD.says("P4", "-4: a FAULT (all stays)");
        for (String tape : new String[] {"?", V + ";", FULL + "x", "valley law 4 frost", V + times(B, 4)}) {
            Look look = new Look(TOLD, () -> {
                SagMemory x = Told.of(FULL);
                x.image(1);
                x.rate(2, 77);
                x.send(3, 2);
                x.freeze(1, 1);
                x.image(0);
                x.send(0, -1);
                Told.fill(x, 0, 1, 99, 50);
                Told.fill(x, 1, 2, 0, 6, 50);
                Told.tape(x, tape);
                return x;
            });
            look.refused("valley() of " + tape, SagMemory::valley, -4);
        }
        Look none = new Look(TOLD, () -> {
            SagMemory x = new SagMemory();
            Told.tape(x, "valley");
            return x;
        });
        none.refused("valley() without a VALLEY", SagMemory::valley, -4);
    }

    private static void faultOfTheLatest() {
        TOLD.says("P5", "Of the latest valley(), what 0: its FAULT, 0 without, 1: its place (NONE without)");
        SagMemory x = new SagMemory();
        String[] texts = {V + "?", V, times(" ", 3), "valley law 4", V + times(B, 4), FULL};
        int[][] wanted = {{1, 28}, {0, -1}, {0, -1}, {2, 11}, {3, 94}, {0, -1}};
        for (int i = 0; i < texts.length; i++) {
            Told.tell(x, texts[i]);
            TOLD.row(texts[i], new long[] {x.fault(0), x.fault(1)}, wanted[i][0], wanted[i][1]);
        }
        TOLD.says("P5", "Of the latest valley()");
        Told.tell(x, "?");
        x.end(0);
        x.feed(0x20202020, 0x20202020, 0x20202020, 0x20202020, 0x20202020);
        x.image(0);
        x.back(0);
        x.anew();
        TOLD.row("others do not touch it", new long[] {x.fault(0), x.fault(1)}, 1, 0);
    }

    private static void faultAheadOfAny() {
        TOLD.says("P5", "NONE for another what, and ahead of any (what 1)");
        SagMemory x = new SagMemory();
        TOLD.row("ahead of any", new long[] {x.fault(0), x.fault(1)}, 0, -1);
        Told.tape(x, "?");
        TOLD.row("fed alone", new long[] {x.fault(0), x.fault(1)}, 0, -1);
    }

    private static void faultOfAnotherWhat() {
        TOLD.says("P5", "NONE for another what");
        SagMemory none = new SagMemory();
        SagMemory right = Told.of(V);
        SagMemory wrong = new SagMemory();
        Told.tell(wrong, V + "?");
        for (int what : new int[] {-1, 2, 3, 28, Integer.MIN_VALUE, Integer.MAX_VALUE}) {
            TOLD.due("fault(" + what + ") of a new object", none.fault(what), -1);
            TOLD.due("fault(" + what + ") behind none", right.fault(what), -1);
            TOLD.due("fault(" + what + ") behind one", wrong.fault(what), -1);
        }
    }

    private static void bridgeEdges() {
        TOLD.says("P6", "-2: there are none such");
        SagMemory x = Told.of(FULL);
        TOLD.row("the last", new long[] {x.bridge(2, 0), x.bridge(2, 1)}, 50, 5);
        TOLD.row("the first", new long[] {x.bridge(0, 0), x.bridge(0, 1)}, 300, 9);
        TOLD.row("none such", new long[] {x.bridge(3, 0), x.bridge(-1, 0), x.bridge(0, 2), x.bridge(0, -1), x.bridge(3, 2),
            x.bridge(-1, -1)}, -2, -2, -2, -2, -2, -2);
        SagMemory one = Told.of(V + B);
        TOLD.row("of one", new long[] {one.bridge(0, 0), one.bridge(1, 0)}, 9, -2);
        TOLD.due("of none", Told.of(V).bridge(0, 0), -2);
    }

    private static void cartEdges() {
        TOLD.says("P7", "Of a CART as told, what 0: load, 1: by. -2: there are none such");
        SagMemory x = Told.of(FULL);
        x.send(6, 2);
        x.send(0, -1);
        TOLD.row("the last as told", new long[] {x.cart(6, 0), x.cart(6, 1)}, 50, 0);
        TOLD.row("the first as told", new long[] {x.cart(0, 0), x.cart(0, 1)}, 99, 0);
        TOLD.row("none such", new long[] {x.cart(7, 0), x.cart(-1, 0), x.cart(0, 2), x.cart(0, -1), x.cart(7, 2)},
            -2, -2, -2, -2, -2);
        SagMemory one = Told.of(V + B + C);
        TOLD.row("of one", new long[] {one.cart(0, 0), one.cart(1, 0)}, 5, -2);
        TOLD.due("of none", Told.of(V + B).cart(0, 0), -2);
    }

    private static void wardEdges() {
        TOLD.says("P8", "(NONE: it halts). -2: there are none such");
        SagMemory x = Told.of(FULL);
        TOLD.row("the first halts", new long[] {x.ward(0, 0), x.ward(0, 1), x.ward(0, 2)}, 0, 99, -1);
        TOLD.row("the last sends", new long[] {x.ward(4, 0), x.ward(4, 1), x.ward(4, 2)}, 0, 1, 2);
        TOLD.row("none such", new long[] {x.ward(5, 0), x.ward(-1, 0), x.ward(0, 3), x.ward(0, -1), x.ward(5, 3)},
            -2, -2, -2, -2, -2);
        SagMemory one = Told.of(V + B + HALT);
        TOLD.row("of one", new long[] {one.ward(0, 2), one.ward(1, 2)}, -1, -2);
        TOLD.due("of none", Told.of(V + B).ward(0, 0), -2);
    }

    private static void coldEdges() {
        TOLD.says("P9", "1 if there is FROST ahead of a CART, else 0. -2: there is none such");
        SagMemory x = Told.of(V + B + C + C + "frost at 0;frost at 2;");
        // FROST is told for turn 2, but there is no CART.
        TOLD.row("cold", new long[] {x.cold(0), x.cold(1), x.cold(2), x.cold(-1)}, 1, 0, -2, -2);
        TOLD.due("of none", Told.of(V + B + "frost at 0;").cold(0), -2);
        TOLD.due("of no VALLEY", new SagMemory().cold(0), -2);
        x.freeze(0, 0);
        x.freeze(1, 1);
        TOLD.row("cold by acts", new long[] {x.cold(0), x.cold(1)}, 0, 1);
    }
}
