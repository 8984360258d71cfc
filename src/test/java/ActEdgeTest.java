/** Edges that term IX (draws), SLOTS of term I and promises 61 to 73 name: each sentence has a test of its own. */
public final class ActEdgeTest {
    private static final Told TOLD = new Told("ActEdgeTest");
    private static final String WIDE = "bridge holds 300 toll 1;";
    private static final String SEVEN = Told.V + WIDE + WIDE + WIDE + Told.carts(0, 9, 8, 7, 6, 5, 4, 3) + "frost at 1;";
    private static final int MIN = Integer.MIN_VALUE;
    private static final int MAX = Integer.MAX_VALUE;
    private static final Look BUSY = new Look(TOLD, ActEdgeTest::busy);
    private static final Look FULL = new Look(TOLD, () -> withActs(30));

    public static void main(String[] args) {
        sendEdges();
        sendMeetsWards();
        sendRefused();
        sendFull();
        freezeEdges();
        freezeRefused();
        freezeFull();
        undoEdges();
        undoRefused();
        anewEdges();
        drawnEdges();
        drawsByHand();
        drawnRefused();
        luckEdges();
        luckRefused();
        rateEdges();
        rateRefused();
        rateBehindActs();
        countEdges();
        countOfFull();
        imageEdges();
        imageOfFullActs();
        backEdges();
        backRefused();
        rowEdges();
        rowAllZero();
        rowRefused();
        rowBelowZero();
        writeEdges();
        writeIsCut();
        writeRefused();
        pasteEdges();
        pasteAsTheyWere();
        pasteOfNone();
        pasteBeyond();
        pasteRefused();
        aheadOfOthers();
        TOLD.close();
    }

    /** An object with something of all: acts, IMAGES, rows, bytes of a TAPE. */
    private static SagMemory busy() {
        SagMemory x = Told.of(SEVEN);
        x.image(0);
        x.send(0, 1);
        x.freeze(2, 1);
        x.image(1);
        x.send(6, -1);
        Told.fill(x, 0, 0, 9, 8, 7);
        Told.fill(x, 1, 1, 0, 6, 20);
        Told.fill(x, 2, 0, 5, 4, 3);
        Told.tape(x, Told.V + WIDE + Told.carts(0, 77));
        return x;
    }

    private static SagMemory withActs(int n) {
        SagMemory x = Told.of(SEVEN);
        for (int i = 0; i < n; i++) {
            if (i % 2 == 0) {
                x.send(i % 7, i % 3);
            } else {
                x.freeze(i % 7, i / 2 % 2);
            }
        }
        return x;
    }

    // ---- acts ----

    private static void sendEdges() {
        TOLD.says("P61", "A CART is halted from now on (NONE), or comes by a BRIDGE first: by which it came (NONE: halted)");
        SagMemory x = Told.of(SEVEN);
        TOLD.row("the first and the last CART, by all", new long[] {x.send(0, 2), x.send(0, -1), x.send(0, 0), x.send(0, 0),
            x.send(6, 2), x.send(6, 1), x.send(6, -1), x.send(6, -1), x.send(6, 2)}, 0, 2, -1, 0, 0, 2, 1, -1, -1);
        TOLD.row("where they come", new long[] {x.comes(0), x.comes(6), x.goes(0), x.goes(6)}, 0, 2, 0, 2);
        TOLD.due("each is an act, also one that changes nothing", x.count(7), 9);
        TOLD.due("as told still", x.cart(6, 1), 0);
    }

    private static void sendMeetsWards() {
        TOLD.says("P61", "or comes by a BRIDGE first");
        SagMemory x = Told.of(SEVEN + "ward 1 over 8 to 2;ward 2 over 0 to halt;");
        TOLD.row("by which it came is where it came first", new long[] {x.send(0, 1), x.comes(0), x.send(0, 2), x.comes(0),
            x.send(0, -1), x.comes(0), x.send(0, 0), x.comes(0)}, 0, 2, 1, -1, 2, -1, -1, 0);
        TOLD.row("over 8 is not below 8", new long[] {x.send(1, 1), x.comes(1)}, 0, 1);
    }

    private static void sendRefused() {
        TOLD.says("P61", "-2: there are none such");
        for (int cart : new int[] {-1, 7, 8, MIN, MAX}) {
            BUSY.refused("send(" + cart + ", 0)", x -> x.send(cart, 0), -2);
            BUSY.refused("send(" + cart + ", NONE)", x -> x.send(cart, -1), -2);
        }
        for (int bridge : new int[] {-2, 3, 4, MIN, MAX}) {
            BUSY.refused("send(0, " + bridge + ")", x -> x.send(0, bridge), -2);
        }
        SagMemory one = Told.of(Told.V + WIDE + Told.carts(0, 9));
        TOLD.row("of one", new long[] {one.send(0, 1), one.send(1, 0), one.send(0, 0), one.send(0, -1)}, -2, -2, 0, 0);
        SagMemory bare = Told.of(Told.V + WIDE);
        TOLD.row("of none", new long[] {bare.send(0, 0), bare.send(0, -1), new SagMemory().send(0, -1)}, -2, -2, -2);
    }

    private static void sendFull() {
        TOLD.says("P61", "-5: there were 30 acts");
        TOLD.row("the 30th", new long[] {withActs(29).send(0, 1), withActs(30).count(7)}, 1, 30);
        FULL.refused("the 31st", x -> x.send(0, 1), -5);
        FULL.refused("the 31st", x -> x.send(6, -1), -5);
        FULL.refused("-2 ahead of it", x -> x.send(7, 1), -2);
        FULL.refused("-2 ahead of it", x -> x.send(0, 3), -2);
        SagMemory x = withActs(30);
        x.undo();
        TOLD.row("one less, one more", new long[] {x.send(1, 2) >= -1 ? 1 : 0, x.count(7), x.send(1, 2)}, 1, 30, -5);
        x.anew();
        TOLD.row("anew", new long[] {x.send(1, 2), x.count(7)}, 0, 1);
    }

    private static void freezeEdges() {
        TOLD.says("P62", "FROST comes ahead of a CART besides (on 1), or none does (on 0; also not the one told): 1 if it"
            + " was there, else 0");
        SagMemory x = Told.of(SEVEN);
        TOLD.row("told", new long[] {x.cold(1), x.freeze(1, 1), x.cold(1), x.freeze(1, 0), x.cold(1), x.freeze(1, 0),
            x.freeze(1, 1), x.cold(1)}, 1, 1, 1, 1, 0, 0, 0, 1);
        TOLD.row("not told, the first and the last", new long[] {x.freeze(0, 1), x.cold(0), x.freeze(0, 0), x.cold(0),
            x.freeze(6, 0), x.freeze(6, 1), x.cold(6)}, 0, 1, 1, 0, 0, 0, 1);
        TOLD.row("acts, FROSTS told", new long[] {x.count(7), x.count(6)}, 8, 1);
    }

    private static void freezeRefused() {
        TOLD.says("P62", "-5, -2 likewise");
        for (int cart : new int[] {-1, 7, 8, MIN, MAX}) {
            BUSY.refused("freeze(" + cart + ", 1)", x -> x.freeze(cart, 1), -2);
            BUSY.refused("freeze(" + cart + ", 0)", x -> x.freeze(cart, 0), -2);
        }
        for (int on : new int[] {-1, 2, MIN, MAX}) {
            BUSY.refused("freeze(0, " + on + ")", x -> x.freeze(0, on), -2);
        }
        TOLD.row("of none", new long[] {Told.of(Told.V + WIDE).freeze(0, 1), new SagMemory().freeze(0, 1)}, -2, -2);
    }

    private static void freezeFull() {
        TOLD.says("P62", "-5");
        TOLD.due("the 30th", withActs(29).freeze(0, 1), 0);
        FULL.refused("the 31st", x -> x.freeze(0, 1), -5);
        FULL.refused("the 31st", x -> x.freeze(6, 0), -5);
        FULL.refused("-2 ahead of it", x -> x.freeze(-1, 1), -2);
        FULL.refused("-2 ahead of it", x -> x.freeze(0, 2), -2);
    }

    private static void undoEdges() {
        TOLD.says("P63", "The latest act is taken back: how many there are");
        SagMemory x = withActs(30);
        for (int left = 29; left >= 0; left--) {
            TOLD.due("undo()", x.undo(), left);
            SagMemory same = withActs(left);
            long[] got = new long[14];
            long[] want = new long[14];
            for (int c = 0; c < 7; c++) {
                got[c] = x.comes(c);
                got[c + 7] = x.cold(c);
                want[c] = same.comes(c);
                want[c + 7] = same.cold(c);
            }
            TOLD.row("as with " + left, got, want);
        }
        TOLD.due("undo() of none", x.undo(), -5);
    }

    private static void undoRefused() {
        TOLD.says("P63", "-5: there is none; -2: there is no VALLEY");
        Look quiet = new Look(TOLD, () -> {
            SagMemory x = Told.of(SEVEN);
            x.image(0);
            return x;
        });
        quiet.refused("of a VALLEY with no acts", SagMemory::undo, -5);
        TOLD.due("of one LINE", Told.of(Told.V).undo(), -5);
        TOLD.due("no VALLEY: -2 ahead of -5", new SagMemory().undo(), -2);
        SagMemory x = withActs(3);
        Told.tell(x, "");
        TOLD.due("behind an empty TAPE", x.undo(), -2);
        // rate() is no act.
        SagMemory y = Told.of(SEVEN);
        y.rate(0, 5);
        TOLD.row("rate() stays", new long[] {y.undo(), y.bridge(0, 0)}, -5, 5);
    }

    private static void anewEdges() {
        TOLD.says("P64", "All are: how many there were. -2 likewise");
        for (int n : new int[] {0, 1, 29, 30}) {
            SagMemory x = withActs(n);
            TOLD.row("anew() of " + n, new long[] {x.anew(), x.count(7), x.over(0), x.cold(1), x.undo(), x.anew()},
                n, 0, 127, 1, -5, 0);
        }
        TOLD.due("of no VALLEY", new SagMemory().anew(), -2);
        SagMemory x = withActs(3);
        Told.tell(x, " ");
        TOLD.due("behind an empty TAPE", x.anew(), -2);
    }

    // ---- winters drawn ----

    private static SagMemory odds(int odds) {
        return Told.of("valley law 0 frost 5 odds " + odds + ";" + WIDE + "bridge holds 1 toll 1;"
            + Told.carts(0, 9, 9, 9, 9, 9, 9, 9));
    }

    private static void drawnEdges() {
        TOLD.says("P65", "A winter drawn (IX) from a seed (0 .. 2,000,000,000), what 0: CARTS ahead of which there is"
            + " FROST, as bits");
        TOLD.row("odds 0", new long[] {odds(0).drawn(0, 0), odds(0).drawn(2000000000, 0)}, 0, 0);
        TOLD.row("odds 10", new long[] {odds(10).drawn(0, 0), odds(10).drawn(2000000000, 0)}, 127, 127);
        // The draws from 0 are 0 8 8 7 8 7 5.
        long[] from0 = new long[11];
        for (int odds = 0; odds <= 10; odds++) {
            from0[odds] = odds(odds).drawn(0, 0);
        }
        TOLD.row("from 0 by odds", from0, 0, 1, 1, 1, 1, 1, 65, 65, 105, 127, 127);
        TOLD.says("P65", "1: SAG of all BRIDGES at the end");
        TOLD.row("no CARTS", new long[] {Told.of(Told.V + WIDE).drawn(0, 0), Told.of(Told.V + WIDE).drawn(0, 1)}, 0, 0);
        SagMemory x = Told.of("valley law 0 frost 5 odds 10;" + WIDE + WIDE + Told.carts(0, 20) + Told.carts(1, 30));
        TOLD.due("FROST ahead of both", x.drawn(7, 1), 45);
    }

    private static void drawsByHand() {
        TOLD.says("IX", "x becomes (1103515245 x + 12345) modulo 2,147,483,648 (at first it is the seed); a draw: x /"
            + " 65536, cut, modulo 10");
        long[] seeds = {0, 1, 65535, 65536, 1234567890, 1999999999, 2000000000};
        for (long seed : seeds) {
            long x = seed;
            long[] draws = new long[7];
            for (int c = 0; c < 7; c++) {
                x = (1103515245L * x + 12345L) & 0x7fffffffL;
                draws[c] = (x >> 16) % 10;
            }
            for (int odds = 0; odds <= 10; odds++) {
                int bits = 0;
                for (int c = 0; c < 7; c++) {
                    bits |= draws[c] < odds ? 1 << c : 0;
                }
                TOLD.due("drawn(" + seed + ", 0) by odds " + odds, odds(odds).drawn((int) seed, 0), bits);
            }
        }
        TOLD.says("IX", "CART by CART a draw: below odds there is FROST");
        // The first draws from 0 are 0 and 8: 0 is below 1, 8 is below 9, and not below 8.
        TOLD.row("of the first two", new long[] {odds(0).drawn(0, 0) & 3, odds(1).drawn(0, 0) & 3, odds(8).drawn(0, 0) & 3,
            odds(9).drawn(0, 0) & 3}, 0, 1, 1, 3);
    }

    private static void drawnRefused() {
        TOLD.says("P65", "-2: there are none such, no VALLEY");
        SagMemory x = odds(5);
        TOLD.same("drawn(seed, 0)", seed -> x.drawn(seed, 0), -2, -1, 2000000001, MIN, MAX);
        TOLD.same("drawn(seed, 1)", seed -> x.drawn(seed, 1), -2, -1, 2000000001, MIN, MAX);
        TOLD.same("drawn(0, what)", what -> x.drawn(0, what), -2, -1, 2, MIN, MAX);
        TOLD.row("no VALLEY", new long[] {new SagMemory().drawn(0, 0), new SagMemory().drawn(2000000000, 1)}, -2, -2);
        TOLD.row("one LINE is a VALLEY", new long[] {Told.of(Told.V).drawn(0, 0), Told.of(Told.V).drawn(2000000000, 1)}, 0, 0);
    }

    private static void luckEdges() {
        TOLD.says("P66", "Of n (1 .. 20) such from seeds, the seed and 1, .., in how many a BRIDGE BREAKS");
        String rest = "bridge holds 24 toll 1;" + WIDE + "bridge holds 1 toll 1;" + Told.carts(0, 20, 10) + Told.carts(2, 2);
        // The first breaks without FROST ahead of the second CART; the second never; the third always.
        SagMemory x = Told.of("valley law 0 frost 5 odds 5;" + rest);
        for (int seed : new int[] {0, 1, 99, 1999999981, 2000000000}) {
            int broke = 0;
            for (int n = 1; n <= 20; n++) {
                long at = (long) seed + n - 1;
                long second = (1103515245L * ((1103515245L * at + 12345L) & 0x7fffffffL) + 12345L) & 0x7fffffffL;
                broke += (second >> 16) % 10 < 5 ? 0 : 1;
                TOLD.row("luck(" + seed + ", " + n + ", b)",
                    new long[] {x.luck(seed, n, 0), x.luck(seed, n, 1), x.luck(seed, n, 2)}, broke, 0, n);
            }
        }
    }

    private static void luckRefused() {
        TOLD.says("P66", "-2: there are none such");
        SagMemory x = odds(5);
        TOLD.same("luck(seed, 1, 0)", seed -> x.luck(seed, 1, 0), -2, -1, 2000000001, MIN, MAX);
        TOLD.same("luck(0, n, 0)", n -> x.luck(0, n, 0), -2, 0, -1, 21, MIN, MAX);
        TOLD.same("luck(0, 1, bridge)", bridge -> x.luck(0, 1, bridge), -2, -1, 2, 3, MIN, MAX);
        TOLD.row("the ends", new long[] {x.luck(0, 1, 0), x.luck(2000000000, 20, 1), x.luck(-1, 0, -1)}, 0, 0, -2);
        TOLD.row("no BRIDGES", new long[] {Told.of(Told.V).luck(0, 1, 0), new SagMemory().luck(0, 1, 0)}, -2, -2);
        TOLD.due("no CARTS", Told.of(Told.V + WIDE).luck(0, 20, 0), 0);
    }

    // ---- rate, count, images ----

    private static void rateEdges() {
        TOLD.says("P67", "holds of a BRIDGE is n (1 .. 300) from now on: what it was");
        SagMemory x = Told.of(SEVEN);
        TOLD.row("rate", new long[] {x.rate(0, 1), x.rate(0, 300), x.rate(0, 9), x.rate(2, 77), x.rate(2, 77)},
            300, 1, 300, 300, 77);
        // 9; in FROST 4, which 8 wipes out; then 8 and 3, by a half of 7, are above 9.
        TOLD.row("from now on", new long[] {x.bridge(0, 0), x.bridge(1, 0), x.bridge(2, 0), x.breaks(0), x.count(7)},
            9, 300, 77, 2, 0);
        TOLD.row("one less", new long[] {x.rate(0, 8), x.breaks(0), x.waits(), x.spare(0)}, 9, 0, 126, 4);
        TOLD.due("as told by the next valley()", Told.tell(x, SEVEN) > 0 ? x.bridge(0, 0) : 0, 300);
    }

    private static void rateRefused() {
        TOLD.says("P67", "-2: there are none such");
        Look quiet = new Look(TOLD, () -> {
            SagMemory x = busy();
            x.anew();
            return x;
        });
        for (int bridge : new int[] {-1, 3, 4, MIN, MAX}) {
            quiet.refused("rate(" + bridge + ", 5)", x -> x.rate(bridge, 5), -2);
        }
        for (int n : new int[] {0, -1, 301, MIN, MAX}) {
            quiet.refused("rate(0, " + n + ")", x -> x.rate(0, n), -2);
        }
        TOLD.row("no BRIDGES", new long[] {Told.of(Told.V).rate(0, 5), new SagMemory().rate(0, 5)}, -2, -2);
    }

    private static void rateBehindActs() {
        TOLD.says("P67", "-5: there were acts");
        BUSY.refused("rate(0, 5)", x -> x.rate(0, 5), -5);
        BUSY.refused("rate(2, 300), as it is", x -> x.rate(2, 300), -5);
        new Look(TOLD, () -> withActs(1)).refused("one act", x -> x.rate(0, 5), -5);
        FULL.refused("30 acts", x -> x.rate(0, 5), -5);
        BUSY.refused("-2 ahead of it", x -> x.rate(3, 5), -2);
        BUSY.refused("-2 ahead of it", x -> x.rate(0, 0), -2);
        BUSY.refused("-2 ahead of it", x -> x.rate(0, 301), -2);
        SagMemory x = withActs(1);
        x.undo();
        TOLD.due("taken back", x.rate(0, 5), 300);
        x.send(0, 1);
        x.anew();
        TOLD.due("anew", x.rate(0, 6), 5);
    }

    private static void countEdges() {
        TOLD.says("P68", "NONE for others");
        SagMemory x = busy();
        TOLD.same("count", x::count, -1, -1, 11, 12, MIN, MAX);
        TOLD.same("count of a new object", new SagMemory()::count, -1, -1, 11, MIN, MAX);
        TOLD.each("count of a new object", new SagMemory()::count, 0, 0, 0, 0, 0, 0, 0, 0, 0, 0, 0, -1);
        TOLD.each("count", x::count, 0, 5, 3, 3, 7, 0, 1, 3, 12, 65, 3, -1);
    }

    private static void countOfFull() {
        TOLD.says("P68", "7 acts, 8 LINES, 9 bytes of the TAPE, 10 SLOTS that have a row");
        SagMemory x = Told.of("valley law 3 frost 50 odds 10;" + WIDE + WIDE + WIDE + Told.carts(0, 9, 8, 7, 6, 5, 4, 3)
            + "ward 0 over 99 to 1;ward 0 over 99 to 1;ward 0 over 99 to 1;ward 0 over 99 to 1;ward 0 over 99 to 1;"
            + "frost at 3;frost at 3;frost at 3;frost at 3;");
        for (int i = 0; i < 30; i++) {
            x.freeze(0, 1);
        }
        for (int i = 0; i < 35; i++) {
            x.feed(0, 0, 0, 0, 0);
        }
        for (int slot = 0; slot < 4; slot++) {
            TOLD.due("rows ahead of " + slot, x.count(10), slot);
            x.row(slot, 3, slot == 3 ? 0 : 60);
        }
        TOLD.each("count", x::count, 3, 50, 10, 3, 7, 5, 4, 30, 20, 700, 4, -1);
    }

    private static void imageEdges() {
        TOLD.says("P69", "IMAGE k (0 .. 2) keeps the VALLEY, and acts: 0. -2: no such k");
        SagMemory x = busy();
        TOLD.each("image", x::image, 0, 0, 0, -2);
        TOLD.same("image", x::image, -2, -1, 3, MIN, MAX);
        for (int k : new int[] {-1, 3, MIN, MAX}) {
            BUSY.refused("image(" + k + ")", y -> y.image(k), -2);
        }
        // It is a copy: what comes later does not change it.
        x.anew();
        x.rate(0, 7);
        Told.tell(x, Told.V);
        for (int k = 0; k < 3; k++) {
            TOLD.row("IMAGE " + k, new long[] {x.back(k), x.count(7), x.count(8), x.bridge(0, 0), x.comes(6)}, 0, 3, 12, 300, -1);
            x.anew();
            Told.tell(x, Told.V);
        }
        TOLD.row("and again", new long[] {x.back(2), x.count(7)}, 0, 3);
        x.anew();
        x.freeze(3, 1);
        x.freeze(4, 1);
        x.freeze(5, 1);
        x.image(1);
        TOLD.row("each its own", new long[] {x.back(2), x.comes(0), x.comes(6), x.cold(3), x.cold(4)}, 0, 1, -1, 0, 0);
        TOLD.row("each its own", new long[] {x.back(1), x.comes(0), x.comes(6), x.cold(3), x.cold(4)}, 0, 0, 0, 1, 1);
        TOLD.row("each its own", new long[] {x.back(2), x.comes(6), x.cold(2)}, 0, -1, 1);
        // A later one is in place of it.
        x.undo();
        x.image(2);
        x.undo();
        TOLD.row("in place of another", new long[] {x.back(2), x.count(7), x.back(1), x.count(7)}, 0, 2, 0, 3);
    }

    private static void imageOfFullActs() {
        TOLD.says("P69", "keeps the VALLEY, and acts");
        SagMemory x = withActs(30);
        x.image(2);
        x.anew();
        x.image(0);
        TOLD.row("30 acts", new long[] {x.back(2), x.count(7), x.send(0, 0), x.undo(), x.back(0), x.count(7), x.undo()},
            0, 30, -5, 29, 0, 0, -5);
        SagMemory none = new SagMemory();
        none.image(1);
        Told.tell(none, SEVEN);
        none.send(0, 1);
        TOLD.row("of no VALLEY", new long[] {none.back(1), none.waits(), none.undo(), none.count(8), none.count(7)},
            0, -2, -2, 0, 0);
    }

    private static void backEdges() {
        TOLD.says("P70", "It is as IMAGE k has it: 0");
        SagMemory x = busy();
        TOLD.row("back(0)", new long[] {x.back(0), x.count(7), x.goes(0), x.goes(6)}, 0, 0, 0, 0);
        TOLD.row("back(1)", new long[] {x.back(1), x.count(7), x.goes(0), x.goes(6)}, 0, 2, 1, 0);
        TOLD.row("twice", new long[] {x.back(1), x.count(7), x.goes(0), x.goes(6)}, 0, 2, 1, 0);
        TOLD.row("the TAPE and SLOTS stay", new long[] {x.count(9), x.count(10), x.sets(0, 0), x.valley()}, 65, 3, 1, 3);
        // Others are done in their places meanwhile.
        x.anew();
        x.freeze(5, 1);
        x.send(4, 2);
        TOLD.row("behind others", new long[] {x.back(1), x.goes(0), x.cold(2), x.cold(5), x.goes(4), x.count(7)}, 0, 1, 1, 0, 0, 2);
        TOLD.row("the acts as they were", new long[] {x.back(1), x.undo(), x.cold(2), x.undo(), x.goes(0), x.undo()},
            0, 1, 0, 0, 0, -5);
    }

    private static void backRefused() {
        TOLD.says("P70", "-2: no such k; -6: it has nothing");
        for (int k : new int[] {-1, 3, MIN, MAX}) {
            BUSY.refused("back(" + k + ")", x -> x.back(k), -2);
        }
        BUSY.refused("back(2)", x -> x.back(2), -6);
        TOLD.each("of a new object", new SagMemory()::back, -6, -6, -6, -2);
    }

    // ---- SLOTS ----

    private static void rowEdges() {
        TOLD.says("P71", "A SLOT (0 .. 3) has a row of n numbers of a WIDTH, all 0 (in place of another one): 0");
        for (int slot = 0; slot < 4; slot++) {
            for (int width = 0; width < 4; width++) {
                for (int n : new int[] {0, 1, 59, 60}) {
                    SagMemory x = new SagMemory();
                    TOLD.row("row(" + slot + ", " + width + ", " + n + ")", new long[] {x.row(slot, width, n), x.count(10),
                        Look.length(x, slot), x.write(slot, n, 1), n == 0 ? 0 : x.write(slot, n - 1, 1)}, 0, 1, n, -7, 0);
                }
            }
        }
        TOLD.says("I", "SLOTS 0 .. 3 have rows of numbers of 1, 2, 4 or 8 bytes (WIDTH 0 .. 3), at most 60, or nothing");
        SagMemory x = new SagMemory();
        for (int width = 0; width < 4; width++) {
            x.row(width, width, 60);
        }
        for (int a = 0; a < 4; a++) {
            for (int b = 0; b < 4; b++) {
                TOLD.due("WIDTHS " + a + " and " + b, x.paste(a, 0, b, 0, 60), a == b ? 0 : -8);
            }
        }
    }

    private static void rowAllZero() {
        TOLD.says("P71", "all 0 (in place of another one)");
        SagMemory x = new SagMemory();
        Told.fill(x, 0, 0, 11, 12, 13, 14);
        Told.fill(x, 1, 0, 21, 22, 23, 24);
        x.row(0, 0, 4);
        TOLD.row("made anew", Look.numbers(x, 0, 0), 0, 0, 0, 0);
        TOLD.row("the other stays", Look.numbers(x, 1, 0), 21, 22, 23, 24);
        x.row(1, 2, 2);
        TOLD.row("shorter and wider", Look.numbers(x, 1, 2), 0, 0);
        x.row(1, 2, 6);
        TOLD.row("longer", Look.numbers(x, 1, 2), 0, 0, 0, 0, 0, 0);
        x.row(1, 2, 0);
        TOLD.row("empty, yet a row", new long[] {Look.length(x, 1), x.count(10), x.write(1, 0, 5)}, 0, 3, -7);
    }

    private static void rowRefused() {
        TOLD.says("P71", "-2: there is no such SLOT or WIDTH (0 .. 3), or n is above 60");
        int[][] wrong = {{-1, 0, 3}, {4, 0, 3}, {MIN, 0, 3}, {MAX, 0, 3}, {0, -1, 3}, {0, 4, 3}, {0, MIN, 3}, {0, MAX, 3},
            {0, 0, 61}, {0, 0, MAX}, {3, 3, 61}, {-1, -1, 61}};
        for (int[] row : wrong) {
            BUSY.refused("row(" + row[0] + ", " + row[1] + ", " + row[2] + ")", x -> x.row(row[0], row[1], row[2]), -2);
        }
    }

    private static void rowBelowZero() {
        TOLD.says("P71", "-3, and the SLOT stays: n is below 0");
        for (int n : new int[] {-1, -60, -61, MIN}) {
            for (int slot = 0; slot < 4; slot++) {
                int asked = slot;
                BUSY.refused("row(" + slot + ", 1, " + n + ")", x -> x.row(asked, 1, n), -3);
            }
        }
        int[][] both = {{-1, 0}, {4, 0}, {0, -1}, {0, 4}};
        for (int[] pair : both) {
            BUSY.refused("-2 ahead of -3", x -> x.row(pair[0], pair[1], -1), -2);
        }
    }

    private static void writeEdges() {
        TOLD.says("P72", "Number i of the SLOT's row is v, cut to its WIDTH: 0");
        for (int width = 0; width < 4; width++) {
            for (int slot = 0; slot < 3; slot++) {
                SagMemory x = new SagMemory();
                Told.fill(x, slot, width, 1, 2, 3);
                TOLD.row("write", new long[] {x.write(slot, 0, 99), x.write(slot, 2, 50)}, 0, 0);
                TOLD.row("numbers", Look.numbers(x, slot, width), 99, 2, 50);
            }
        }
        SagMemory full = new SagMemory();
        full.row(0, 0, 60);
        long[] want = new long[60];
        for (int i = 0; i < 60; i++) {
            want[i] = i + 1;
            full.write(0, i, i + 1);
        }
        TOLD.row("a full row", Look.numbers(full, 0, 0), want);
    }

    private static void writeIsCut() {
        TOLD.says("P72", "cut to its WIDTH");
        int[] bits = {8, 16, 32};
        for (int width = 0; width < 3; width++) {
            long over = 1L << bits[width];
            SagMemory x = new SagMemory();
            Told.fill(x, 0, width, over, over + 1, over + 99, over - 1, -1, over / 2, over / 2 - 1, 1 - over, 99 - over,
                over * 3 + 7, Long.MIN_VALUE + 8, Long.MAX_VALUE, Long.MAX_VALUE - over + 6);
            // What is below 0 by its WIDTH, or above 999, can stand in no book: number() tells -2.
            long[] want = {0, 1, 99, -2, -2, -2, width == 0 ? 100 : -2, 1, 99, 7, 8, -2, 5};
            TOLD.row("numbers of WIDTH " + width, Look.numbers(x, 0, width), want);
        }
        SagMemory x = new SagMemory();
        Told.fill(x, 0, 3, 256 + 9, 65536 + 9, (1L << 32) + 9, (1L << 63) + 9, 9);
        TOLD.row("8 bytes are not cut", Look.numbers(x, 0, 3), 100, -2, -2, -2, 9);
    }

    private static void writeRefused() {
        TOLD.says("P72", "-2: there is no such SLOT; -6: it has nothing; -7: there is no such number");
        for (int slot : new int[] {-1, 4, MIN, MAX}) {
            BUSY.refused("write(" + slot + ", 0, 5)", x -> x.write(slot, 0, 5), -2);
            BUSY.refused("write(" + slot + ", -1, 5)", x -> x.write(slot, -1, 5), -2);
        }
        for (int i : new int[] {0, 2, 3, -1, MIN, MAX}) {
            BUSY.refused("write(3, " + i + ", 5)", x -> x.write(3, i, 5), -6);
        }
        for (int i : new int[] {-1, 3, 4, 59, 60, MIN, MAX}) {
            for (int slot = 0; slot < 3; slot++) {
                int asked = slot;
                BUSY.refused("write(" + slot + ", " + i + ", 5)", x -> x.write(asked, i, 5), -7);
            }
        }
    }

    private static SagMemory two(int width) {
        SagMemory x = new SagMemory();
        Told.fill(x, 0, width, 11, 12, 13, 14, 15);
        Told.fill(x, 1, width, 21, 22, 23);
        return x;
    }

    private static void pasted(int[] call, long[] first, long[] second) {
        for (int width = 0; width < 4; width++) {
            SagMemory x = two(width);
            String name = "paste(" + call[0] + ", " + call[1] + ", " + call[2] + ", " + call[3] + ", " + call[4] + ")";
            TOLD.due(name, x.paste(call[0], call[1], call[2], call[3], call[4]), 0);
            TOLD.row(name + " leaves", Look.numbers(x, 0, width), first);
            TOLD.row(name + " leaves", Look.numbers(x, 1, width), second);
        }
    }

    private static void pasteEdges() {
        TOLD.says("P73", "So many numbers of a SLOT's row, from one on, are put to another one's (or its own), from one"
            + " on, as they were: 0");
        long[] first = {11, 12, 13, 14, 15};
        long[] second = {21, 22, 23};
        pasted(new int[] {0, 0, 1, 0, 3}, first, new long[] {11, 12, 13});
        pasted(new int[] {0, 2, 1, 0, 3}, first, new long[] {13, 14, 15});
        pasted(new int[] {0, 4, 1, 2, 1}, first, new long[] {21, 22, 15});
        pasted(new int[] {1, 0, 0, 0, 3}, new long[] {21, 22, 23, 14, 15}, second);
        pasted(new int[] {1, 0, 0, 2, 3}, new long[] {11, 12, 21, 22, 23}, second);
        pasted(new int[] {1, 2, 0, 4, 1}, new long[] {11, 12, 13, 14, 23}, second);
        pasted(new int[] {1, 1, 0, 1, 1}, new long[] {11, 22, 13, 14, 15}, second);
    }

    private static void pasteAsTheyWere() {
        TOLD.says("P73", "(or its own), from one on, as they were");
        long[] second = {21, 22, 23};
        pasted(new int[] {0, 0, 0, 0, 5}, new long[] {11, 12, 13, 14, 15}, second);
        pasted(new int[] {0, 0, 0, 1, 4}, new long[] {11, 11, 12, 13, 14}, second);
        pasted(new int[] {0, 1, 0, 0, 4}, new long[] {12, 13, 14, 15, 15}, second);
        pasted(new int[] {0, 0, 0, 2, 3}, new long[] {11, 12, 11, 12, 13}, second);
        pasted(new int[] {0, 2, 0, 0, 3}, new long[] {13, 14, 15, 14, 15}, second);
        pasted(new int[] {0, 0, 0, 4, 1}, new long[] {11, 12, 13, 14, 11}, second);
        SagMemory full = new SagMemory();
        full.row(0, 1, 60);
        long[] want = new long[60];
        for (int i = 0; i < 60; i++) {
            full.write(0, i, i + 1);
            want[i] = Math.max(1, i);
        }
        TOLD.due("59 of 60", full.paste(0, 0, 0, 1, 59), 0);
        TOLD.row("59 of 60", Look.numbers(full, 0, 1), want);
    }

    private static void pasteOfNone() {
        TOLD.says("P73", "So many numbers");
        long[] first = {11, 12, 13, 14, 15};
        long[] second = {21, 22, 23};
        pasted(new int[] {0, 0, 1, 0, 0}, first, second);
        pasted(new int[] {0, 5, 1, 3, 0}, first, second);
        pasted(new int[] {1, 3, 1, 3, 0}, first, second);
        SagMemory x = new SagMemory();
        x.row(0, 0, 0);
        x.row(1, 0, 0);
        TOLD.row("of empty rows", new long[] {x.paste(0, 0, 1, 0, 0), x.paste(0, 0, 0, 0, 0), x.paste(0, 0, 1, 0, 1)}, 0, 0, -7);
    }

    private static void pasteBeyond() {
        TOLD.says("P73", "-7, and nothing happens: some are beyond their rows, or a place or n is below 0");
        int[][] wrong = {{0, 0, 4}, {0, 0, -1}, {0, 0, MIN}, {0, 0, MAX}, {0, 1, 3}, {3, 0, 3}, {2, 2, 2}, {5, 0, 1}, {0, 3, 1},
            {-1, 0, 1}, {0, -1, 1}, {-1, 0, 0}, {0, -1, 0}, {MIN, 0, 1}, {0, MIN, 1}, {MAX, 0, 1}, {0, MAX, 1}, {6, 0, 0},
            {0, 4, 0}, {MAX, 0, 0}, {1, 1, MAX}, {MAX, MAX, MAX}, {MIN, MIN, MIN}, {-1, -1, 2}, {-1, -1, -1}, {4, 2, 2}};
        Look look = new Look(TOLD, () -> two(1));
        for (int[] row : wrong) {
            look.refused("paste(0, " + row[0] + ", 1, " + row[1] + ", " + row[2] + ")",
                x -> x.paste(0, row[0], 1, row[1], row[2]), -7);
        }
        int[][] own = {{0, 0, 6}, {0, 1, 5}, {1, 0, 5}, {5, 0, 1}, {0, 5, 1}, {-1, 0, 5}, {0, -1, 5}, {0, 0, -1}};
        for (int[] row : own) {
            look.refused("onto its own", x -> x.paste(0, row[0], 0, row[1], row[2]), -7);
        }
    }

    private static void pasteRefused() {
        TOLD.says("P73", "-2: there is no such SLOT; -6: one has nothing; -8: they are not of one WIDTH");
        // SLOTS 0 and 2 of 1 byte, 1 of 2 bytes, 3 has nothing.
        for (int slot : new int[] {-1, 4, MIN, MAX}) {
            for (int other : new int[] {0, 1, 3, -1, 4}) {
                for (int n : new int[] {0, 1, -1, 99}) {
                    TOLD.due("paste to " + slot, busy().paste(other, 0, slot, 0, n), -2);
                    TOLD.due("paste from " + slot, busy().paste(slot, 0, other, 0, n), -2);
                }
            }
            BUSY.refused("paste to " + slot, x -> x.paste(0, 0, slot, 0, 1), -2);
            BUSY.refused("paste from " + slot, x -> x.paste(slot, 0, 0, 0, 1), -2);
        }
        for (int other = 0; other < 4; other++) {
            int asked = other;
            for (int n : new int[] {0, 1, -1, 99}) {
                BUSY.refused("-6 ahead of -7, -8", x -> x.paste(3, 0, asked, 0, n), -6);
                BUSY.refused("-6 ahead of -7, -8", x -> x.paste(asked, 0, 3, 0, n), -6);
            }
        }
        for (int[] row : new int[][] {{0, 0, 1}, {0, 0, 0}, {-1, 0, 1}, {0, -1, 1}, {0, 0, -1}, {0, 0, 99}, {3, 0, 1}}) {
            BUSY.refused("-8 ahead of -7", x -> x.paste(0, row[0], 1, row[1], row[2]), -8);
            BUSY.refused("-8 ahead of -7", x -> x.paste(1, row[0], 2, row[1], row[2]), -8);
        }
        TOLD.due("of one WIDTH", busy().paste(0, 0, 2, 0, 3), 0);
    }

    private static void aheadOfOthers() {
        TOLD.says("I", "-2 (-1,000) is asked ahead of -5, -6");
        SagMemory full = withActs(30);
        TOLD.row("-5 else", new long[] {full.send(7, 0), full.send(0, 3), full.freeze(7, 0), full.freeze(0, 2), full.rate(3, 5),
            full.rate(0, 301)}, -2, -2, -2, -2, -2, -2);
        TOLD.row("-5", new long[] {full.send(0, 0), full.freeze(0, 0), full.rate(0, 5)}, -5, -5, -5);
        SagMemory none = new SagMemory();
        TOLD.row("-5 or -6 else", new long[] {none.undo(), none.sets(0, 0), none.surely(0, 0), none.never(0, 0), none.fewest(0, 0),
            none.ask(0, 0), none.leaves(0, 0), none.loads(0, 0), none.light(0, 0), none.heavy(0, 0), none.liars(0), none.laws(0)},
            -2, -2, -2, -2, -2, -2, -2, -2, -2, -2, -2, -2);
        SagMemory x = Told.of(SEVEN);
        TOLD.row("-6 else", new long[] {x.sets(0, 3), x.surely(0, 3), x.never(0, 3), x.fewest(0, 3), x.ask(0, 3), x.leaves(0, 3),
            x.loads(0, 7), x.light(0, 7), x.heavy(0, 7), x.paste(0, 0, 4, 0, 0), x.paste(4, 0, 0, 0, 0),
            x.back(3), x.write(4, 0, 0)},
            -2, -2, -2, -2, -2, -2, -2, -2, -2, -2, -2, -2, -2);
        TOLD.row("-6", new long[] {x.sets(0, 2), x.surely(0, 2), x.never(0, 2), x.fewest(0, 2), x.ask(0, 2), x.leaves(0, 2),
            x.loads(0, 6), x.light(0, 6), x.heavy(0, 6), x.liars(0), x.laws(0), x.paste(0, 0, 3, 0, 0),
            x.back(2), x.write(3, 0, 0)},
            -6, -6, -6, -6, -6, -6, -6, -6, -6, -6, -6, -6, -6, -6);
        TOLD.row("-1,000", new long[] {none.gives(0), none.spare(0), none.spared(0), x.gives(7), x.spare(3), x.spared(7)},
            -1000, -1000, -1000, -1000, -1000, -1000);
    }
}
