/** Promises 61 to 73: acts, winters drawn, counts, images, slots. */
public final class ActTest {
    private static final Told TOLD = new Told("ActTest");
    private static final String WIDE = "bridge holds 300 toll 1;";
    private static final String FEW = Told.V + WIDE + WIDE + "cart 20 by 0;cart 10 by 0;cart 30 by 1;frost at 1;";

    public static void main(String[] args) {
        send();
        sendMeetsWards();
        freeze();
        thirtyActs();
        undo();
        anew();
        drawn();
        drawnSags();
        luck();
        rate();
        count();
        images();
        imageOfNone();
        rows();
        writes();
        widths();
        paste();
        pasteRefused();
        TOLD.close();
    }

    private static void send() {
        SagMemory x = Told.of(FEW);
        TOLD.due("send(1, 1)", x.send(1, 1), 0);
        TOLD.due("goes(1)", x.goes(1), 1);
        TOLD.due("send(1, NONE)", x.send(1, -1), 1);
        TOLD.due("comes(1)", x.comes(1), -1);
        TOLD.due("send(1, 0)", x.send(1, 0), -1);
        TOLD.due("send(1, 0) again", x.send(1, 0), 0);
        TOLD.due("acts", x.count(7), 4);
        int[][] wrong = {{3, 0}, {-1, 0}, {0, 2}, {0, -2}, {7, 0}, {0, Integer.MIN_VALUE}};
        for (int[] pair : wrong) {
            TOLD.due("send", x.send(pair[0], pair[1]), -2);
        }
        TOLD.due("acts", x.count(7), 4);
    }

    private static void sendMeetsWards() {
        SagMemory x = Told.of(FEW + "ward 1 over 15 to 0;ward 0 over 25 to halt;");
        TOLD.due("send(0, 1): by 1 first", x.send(0, 1), 0);
        TOLD.due("comes(0)", x.comes(0), 0);
        TOLD.due("send(0, 0)", x.send(0, 0), 1);
        TOLD.due("send(2, 0)", x.send(2, 0), 1);
        TOLD.due("comes(2)", x.comes(2), -1);
    }

    private static void freeze() {
        SagMemory x = Told.of(FEW);
        TOLD.due("freeze(1, 1)", x.freeze(1, 1), 1);
        TOLD.due("once", x.load(0, 1, 0), 15);
        TOLD.due("freeze(1, 0)", x.freeze(1, 0), 1);
        TOLD.due("not the one told", x.load(0, 1, 0), 20);
        TOLD.due("freeze(1, 0) again", x.freeze(1, 0), 0);
        TOLD.due("freeze(2, 1)", x.freeze(2, 1), 0);
        TOLD.due("load(0, 2, 0)", x.load(0, 2, 0), 15);
        TOLD.due("FROSTS told", x.count(6), 1);
        TOLD.due("acts", x.count(7), 4);
        int[][] wrong = {{3, 0}, {-1, 0}, {0, 2}, {0, -1}, {7, 1}};
        for (int[] pair : wrong) {
            TOLD.due("freeze", x.freeze(pair[0], pair[1]), -2);
        }
        TOLD.due("acts", x.count(7), 4);
    }

    private static void thirtyActs() {
        SagMemory x = Told.of(FEW);
        for (int i = 0; i < 15; i++) {
            TOLD.due("send", x.send(0, i % 2), i == 0 ? 0 : (i + 1) % 2);
            TOLD.due("freeze", x.freeze(0, i % 2), i == 0 ? 0 : (i + 1) % 2);
        }
        TOLD.due("acts", x.count(7), 30);
        TOLD.due("one more", x.send(0, 1), -5);
        TOLD.due("one more", x.freeze(0, 1), -5);
        TOLD.due("-2 ahead of -5", x.send(3, 1), -2);
        TOLD.due("-2 ahead of -5", x.freeze(0, 2), -2);
        TOLD.due("nothing happened", x.goes(0), 0);
        TOLD.due("undo()", x.undo(), 29);
        TOLD.due("one again", x.send(0, 1), 0);
        TOLD.due("goes(0)", x.goes(0), 1);
    }

    private static void undo() {
        SagMemory x = Told.of(FEW);
        TOLD.due("undo() of none", x.undo(), -5);
        x.send(0, 1);
        x.freeze(1, 0);
        x.send(0, -1);
        TOLD.due("undo()", x.undo(), 2);
        TOLD.due("goes(0)", x.goes(0), 1);
        TOLD.due("undo()", x.undo(), 1);
        TOLD.due("cold(1)", x.cold(1), 1);
        TOLD.due("goes(0)", x.goes(0), 1);
        TOLD.due("undo()", x.undo(), 0);
        TOLD.due("goes(0)", x.goes(0), 0);
        TOLD.due("undo()", x.undo(), -5);
        TOLD.due("undo() of no VALLEY", new SagMemory().undo(), -2);
    }

    private static void anew() {
        SagMemory x = Told.of(FEW);
        TOLD.due("anew() of none", x.anew(), 0);
        x.send(0, 1);
        x.freeze(1, 0);
        TOLD.due("anew()", x.anew(), 2);
        TOLD.due("goes(0)", x.goes(0), 0);
        TOLD.due("cold(1)", x.cold(1), 1);
        TOLD.due("acts", x.count(7), 0);
        TOLD.due("anew() of no VALLEY", new SagMemory().anew(), -2);
    }

    private static final String SEVEN = "cart 9 by 0;cart 9 by 0;cart 9 by 0;cart 9 by 0;cart 9 by 0;cart 9 by 0;cart 9 by 0;";

    private static void drawn() {
        SagMemory x = Told.of("valley law 0 frost 5 odds 5;" + WIDE + SEVEN + "frost at 3;");
        // The draws from 0 are 0 8 8 7 8 7 5, from 1 they are 8 8 3 5 1 7 0, from 5: 5 7 6 7 3 4 4.
        TOLD.due("drawn(0, 0)", x.drawn(0, 0), 1);
        TOLD.due("drawn(1, 0)", x.drawn(1, 0), 84);
        TOLD.due("drawn(5, 0)", x.drawn(5, 0), 112);
        // From 2,000,000,000: 4 3 1 7 6 2 7.
        TOLD.due("drawn(2000000000, 0)", x.drawn(2000000000, 0), 39);
        TOLD.due("drawn(2000000001, 0)", x.drawn(2000000001, 0), -2);
        TOLD.due("drawn(-1, 0)", x.drawn(-1, 0), -2);
        TOLD.due("drawn(0, 2)", x.drawn(0, 2), -2);
        TOLD.due("drawn(0, -1)", x.drawn(0, -1), -2);
        TOLD.due("odds 10", Told.of("valley law 0 frost 5 odds 10;" + WIDE + SEVEN).drawn(0, 0), 127);
        TOLD.due("odds 0", Told.of("valley law 0 frost 5 odds 0;" + WIDE + SEVEN).drawn(0, 0), 0);
        TOLD.due("no VALLEY", new SagMemory().drawn(0, 0), -2);
    }

    private static void drawnSags() {
        SagMemory x = Told.of("valley law 0 frost 5 odds 4;" + WIDE + "cart 30 by 0;cart 20 by 0;cart 10 by 0;frost at 1;");
        // From 1 there is FROST ahead of the third alone, by draws 8 8 3: 25 + 7 + 3.
        TOLD.due("drawn(1, 0)", x.drawn(1, 0), 4);
        TOLD.due("drawn(1, 1)", x.drawn(1, 1), 35);
        x.freeze(0, 1);
        TOLD.due("FROSTS of acts aside", x.drawn(1, 1), 35);
        x.send(2, -1);
        TOLD.due("CARTS as sent", x.drawn(1, 1), 32);
        TOLD.due("no FROST is kept", x.cold(2), 0);
    }

    private static void luck() {
        SagMemory x = Told.of("valley law 0 frost 5 odds 4;bridge holds 24 toll 1;" + WIDE + "cart 20 by 0;cart 10 by 0;");
        // It breaks if there is no FROST ahead of the second: draws 8, 8, of 0 and 1.
        TOLD.due("luck(0, 1, 0)", x.luck(0, 1, 0), 1);
        TOLD.due("luck(0, 2, 0)", x.luck(0, 2, 0), 2);
        int broke = 0;
        for (int seed = 100; seed < 120; seed++) {
            broke += x.drawn(seed, 1) == 25 ? 1 : 0;
        }
        TOLD.due("luck(100, 20, 0)", x.luck(100, 20, 0), broke);
        TOLD.due("luck(0, 20, 1)", x.luck(0, 20, 1), 0);
        TOLD.due("the second draw from 2,000,000,000 is 3", x.luck(2000000000, 1, 0), 0);
        int[][] wrong = {{-1, 1, 0}, {2000000001, 1, 0}, {0, 0, 0}, {0, 21, 0}, {0, -1, 0}, {0, 1, 2}, {0, 1, -1}};
        for (int[] row : wrong) {
            TOLD.due("luck", x.luck(row[0], row[1], row[2]), -2);
        }
    }

    private static void rate() {
        SagMemory x = Told.of(FEW);
        TOLD.due("rate(0, 19)", x.rate(0, 19), 300);
        TOLD.due("bridge(0, 0)", x.bridge(0, 0), 19);
        TOLD.due("breaks(0)", x.breaks(0), 0);
        TOLD.due("rate(0, 300)", x.rate(0, 300), 19);
        TOLD.due("breaks(0)", x.breaks(0), -1);
        TOLD.due("rate(1, 1)", x.rate(1, 1), 300);
        int[][] wrong = {{2, 5}, {-1, 5}, {0, 0}, {0, 301}, {0, -1}};
        for (int[] pair : wrong) {
            TOLD.due("rate", x.rate(pair[0], pair[1]), -2);
        }
        x.send(0, 0);
        TOLD.due("rate() with acts", x.rate(0, 5), -5);
        TOLD.due("-2 ahead of -5", x.rate(2, 5), -2);
        TOLD.due("bridge(0, 0)", x.bridge(0, 0), 300);
        x.undo();
        TOLD.due("rate() without", x.rate(0, 5), 300);
        TOLD.due("no act", x.count(7), 0);
    }

    private static void count() {
        SagMemory x = Told.of("valley law 3 frost 7 odds 2;" + WIDE + WIDE + "cart 5 by 0;cart 5 by 0;cart 5 by 1;"
            + "ward 0 over 9 to halt;frost at 6;frost at 6;");
        x.send(0, 0);
        x.row(1, 0, 0);
        x.row(3, 0, 60);
        x.row(3, 1, 6);
        x.feed(0, 0, 0, 0, 0);
        int[] wanted = {3, 7, 2, 2, 3, 1, 2, 1, 9, 20, 2, -1};
        for (int what = 0; what < wanted.length; what++) {
            TOLD.due("count(" + what + ")", x.count(what), wanted[what]);
        }
        TOLD.due("count(-1)", x.count(-1), -1);
        TOLD.due("count(min)", x.count(Integer.MIN_VALUE), -1);
    }

    private static void images() {
        SagMemory x = Told.of(FEW);
        x.rate(1, 77);
        x.send(0, 1);
        TOLD.due("image(0)", x.image(0), 0);
        x.send(0, -1);
        TOLD.due("image(2)", x.image(2), 0);
        Told.tell(x, Told.V + WIDE);
        x.row(0, 0, 3);
        x.feed(0, 0, 0, 0, 0);
        TOLD.due("back(1)", x.back(1), -6);
        TOLD.due("lines", x.count(8), 2);
        TOLD.due("back(0)", x.back(0), 0);
        TOLD.due("lines", x.count(8), 7);
        TOLD.due("acts", x.count(7), 1);
        TOLD.due("goes(0)", x.goes(0), 1);
        TOLD.due("holds", x.bridge(1, 0), 77);
        TOLD.due("the tape stays", x.count(9), 20);
        TOLD.due("SLOTS stay", x.count(10), 1);
        TOLD.due("undo()", x.undo(), 0);
        TOLD.due("goes(0)", x.goes(0), 0);
        TOLD.due("back(2)", x.back(2), 0);
        TOLD.due("goes(0)", x.goes(0), -1);
        TOLD.due("acts", x.count(7), 2);
        TOLD.due("undo()", x.undo(), 1);
        TOLD.due("back(0) again", x.back(0), 0);
        TOLD.due("acts as kept", x.count(7), 1);
        TOLD.due("least() anew", x.least(), 35);
        int[] wrong = {-1, 3, Integer.MAX_VALUE, Integer.MIN_VALUE};
        for (int k : wrong) {
            TOLD.due("image", x.image(k), -2);
            TOLD.due("back", x.back(k), -2);
        }
    }

    private static void imageOfNone() {
        SagMemory x = new SagMemory();
        TOLD.due("image(1) of no VALLEY", x.image(1), 0);
        Told.tell(x, FEW);
        TOLD.due("back(1)", x.back(1), 0);
        TOLD.due("no VALLEY", x.waits(), -2);
        TOLD.due("no LINES", x.count(8), 0);
    }

    private static void rows() {
        SagMemory x = new SagMemory();
        TOLD.due("row(0, 0, 60)", x.row(0, 0, 60), 0);
        TOLD.due("row(3, 3, 0)", x.row(3, 3, 0), 0);
        int[][] wrong = {{-1, 0, 1}, {4, 0, 1}, {0, -1, 1}, {0, 4, 1}, {0, 0, 61}, {4, 0, -1}, {0, 4, -1}};
        for (int[] row : wrong) {
            TOLD.due("row", x.row(row[0], row[1], row[2]), -2);
        }
        TOLD.due("row(0, 0, -1)", x.row(0, 0, -1), -3);
        TOLD.due("row(1, 0, min)", x.row(1, 0, Integer.MIN_VALUE), -3);
        TOLD.due("SLOTS", x.count(10), 2);
        TOLD.due("it stays", x.write(0, 59, 1), 0);
        SagMemory y = Told.of(Told.V + WIDE + "cart 20 by 0;");
        Told.fill(y, 0, 0, 20);
        TOLD.due("sets", y.sets(0, 0), 1);
        y.row(0, 0, 1);
        TOLD.due("no longer 20", y.sets(0, 0), 0);
        Told.fill(y, 0, 0, 7, 7, 7);
        y.send(0, -1);
        y.row(0, 0, 3);
        TOLD.due("all 0 anew: BRIDGE 0, turn 0, SAG 0", y.laws(0), 15);
        y.row(0, 0, 0);
        TOLD.due("of none", y.sets(0, 0), 1);
    }

    private static void writes() {
        SagMemory x = new SagMemory();
        TOLD.due("write(4, 0, 0)", x.write(4, 0, 0), -2);
        TOLD.due("write(-1, 0, 0)", x.write(-1, 0, 0), -2);
        TOLD.due("write(0, 0, 0)", x.write(0, 0, 0), -6);
        TOLD.due("write(0, -1, 0)", x.write(0, -1, 0), -6);
        x.row(0, 2, 3);
        TOLD.due("write(0, 2, max)", x.write(0, 2, Long.MAX_VALUE), 0);
        TOLD.due("write(0, 3, 0)", x.write(0, 3, 0), -7);
        TOLD.due("write(0, -1, 0)", x.write(0, -1, 0), -7);
        TOLD.due("write(0, max, 0)", x.write(0, Integer.MAX_VALUE, 0), -7);
    }

    private static void widths() {
        SagMemory x = Told.of(Told.V + WIDE + "cart 20 by 0;");
        // What is beyond the WIDTH is cut off: 20 is left of each.
        long[] more = {256L, 65536L, 4294967296L};
        for (int width = 0; width < 4; width++) {
            for (int i = 0; i < more.length; i++) {
                Told.fill(x, 0, width, 20 + more[i]);
                TOLD.due("width " + width + " and " + more[i], x.sets(0, 0), width <= i ? 1 : 0);
                Told.fill(x, 0, width, 20 - more[i]);
                TOLD.due("width " + width + " less " + more[i], x.sets(0, 0), width <= i ? 1 : 0);
            }
        }
    }

    private static void paste() {
        SagMemory x = Told.of(Told.V + WIDE + "cart 40 by 0;cart 30 by 0;cart 20 by 0;cart 10 by 0;");
        Told.fill(x, 0, 1, 40, 30, 20);
        Told.fill(x, 1, 1, 1, 2, 3, 4);
        TOLD.due("paste(0, 1, 1, 0, 2)", x.paste(0, 1, 1, 0, 2), 0);
        TOLD.due("paste(1, 0, 0, 0, 2)", x.paste(1, 0, 0, 0, 2), 0);
        // Now 30, 20, 20.
        TOLD.due("sets", x.sets(0, 0), 0);
        x.write(0, 2, 10);
        TOLD.due("sets", x.sets(0, 0), 1);
        TOLD.due("fewest", x.fewest(0, 0), 14);
        Told.fill(x, 2, 1, 40, 30, 20, 10);
        TOLD.due("onto itself, behind", x.paste(2, 0, 2, 1, 3), 0);
        // 40, 40, 30, 20, as they were.
        TOLD.due("onto itself, ahead", x.paste(2, 1, 2, 0, 3), 0);
        x.write(2, 3, 10);
        Told.fill(x, 0, 1, 0, 0, 0);
        TOLD.due("paste(2, 0, 0, 0, 3)", x.paste(2, 0, 0, 0, 3), 0);
        TOLD.due("40, 30, 20", x.fewest(0, 0), 7);
        TOLD.due("none of them", x.paste(2, 4, 0, 3, 0), 0);
        TOLD.due("40, 30, 20 still", x.fewest(0, 0), 7);
    }

    private static void pasteRefused() {
        SagMemory x = new SagMemory();
        TOLD.due("no such SLOT", x.paste(-1, 0, 0, 0, 0), -2);
        TOLD.due("no such SLOT", x.paste(0, 0, 4, 0, 0), -2);
        TOLD.due("nothing", x.paste(0, 0, 1, 0, 0), -6);
        x.row(0, 0, 3);
        TOLD.due("nothing", x.paste(0, 0, 1, 0, 0), -6);
        TOLD.due("nothing", x.paste(1, 0, 0, 0, -1), -6);
        TOLD.due("-2 ahead of -6", x.paste(1, 0, 4, 0, 0), -2);
        x.row(1, 1, 3);
        TOLD.due("two WIDTHS", x.paste(0, 0, 1, 0, 0), -8);
        TOLD.due("two WIDTHS ahead of -7", x.paste(0, -1, 1, 0, 9), -8);
        x.row(1, 0, 2);
        int[][] wrong = {{-1, 0, 1}, {0, -1, 1}, {0, 0, -1}, {0, 0, 3}, {1, 0, 3}, {0, 1, 2}, {3, 0, 1}, {0, 2, 1},
            {Integer.MAX_VALUE, 0, 1}, {0, Integer.MAX_VALUE, 1}, {1, 1, Integer.MAX_VALUE}, {0, 0, Integer.MIN_VALUE}};
        for (int[] row : wrong) {
            TOLD.due("beyond", x.paste(0, row[0], 1, row[1], row[2]), -7);
        }
        TOLD.due("just within", x.paste(0, 1, 1, 0, 2), 0);
    }
}
