/** Edges that terms II and III and promises 10 to 32 name: each sentence has a test of its own. */
public final class TurnEdgeTest {
    private static final Told TOLD = new Told("TurnEdgeTest");
    private static final String WIDE = "bridge holds 300 toll 3;";
    private static final int MIN = Integer.MIN_VALUE;
    private static final int MAX = Integer.MAX_VALUE;

    public static void main(String[] args) {
        frostWipesOut();
        frostForgetsEverywhere();
        frostToldTwice();
        frostWithoutCart();
        frostAheadOfTheCart();
        wardOver();
        wardFirst();
        wardOnce();
        wardHalts();
        brokenIsNotGoneOver();
        lessHeavyAndLater();
        lawZero();
        lawOneHalf();
        lawOneAlone();
        lawTwoHalf();
        lawTwoNone();
        lawThreeEven();
        sagIsCut();
        breaksAbove();
        brokenForGood();
        creakAhead();
        payment();
        goesEdges();
        comesEdges();
        overEdges();
        waitsEdges();
        deepEdges();
        loadEdges();
        sagEdges();
        allEdges();
        deepestEdges();
        givesEdges();
        creakEdges();
        loudestEdges();
        paysEdges();
        tollsEdges();
        wipesEdges();
        breaksEdges();
        failsEdges();
        spareEdges();
        keptEdges();
        lastEdges();
        brokenEdges();
        freeNone();
        freeByLaw();
        freeOfBroken();
        mostEdges();
        mostByLaw();
        TOLD.close();
    }

    private static String valley(int law, int frost) {
        return "valley law " + law + " frost " + frost + " odds 3;";
    }

    /** CARTS one behind another over one BRIDGE. */
    private static SagMemory line(int law, int... loads) {
        return Told.of(valley(law, 5) + WIDE + Told.carts(0, loads));
    }

    /** What BRIDGE 0 remembers behind the last CART. */
    private static void left(SagMemory x, int... wanted) {
        int turn = x.count(4) - 1;
        TOLD.due("deep", x.deep(0, turn), wanted.length);
        for (int k = 0; k < wanted.length; k++) {
            TOLD.due("load " + k, x.load(0, turn, k), wanted[k]);
        }
        TOLD.due("load beyond", x.load(0, turn, wanted.length), -1);
    }

    // ---- term II ----

    private static void frostWipesOut() {
        TOLD.says("II", "each load that a BRIDGE remembers is frost less; those not above 0 are wiped out");
        SagMemory x = Told.of(valley(0, 10) + WIDE + WIDE + Told.carts(0, 12, 11, 10, 9) + Told.carts(1, 7) + "frost at 4;");
        left(x, 2, 1);
        TOLD.due("kept(0)", x.kept(0), 3);
        SagMemory least = Told.of(valley(0, 1) + WIDE + WIDE + Told.carts(0, 2, 1) + Told.carts(1, 7) + "frost at 2;");
        left(least, 1);
        SagMemory most = Told.of(valley(0, 50) + WIDE + WIDE + Told.carts(0, 99, 51, 50) + Told.carts(1, 7) + "frost at 3;");
        left(most, 49, 1);
        SagMemory all = Told.of(valley(0, 50) + WIDE + WIDE + Told.carts(0, 50, 49) + Told.carts(1, 7) + "frost at 2;");
        left(all);
    }

    private static void frostForgetsEverywhere() {
        TOLD.says("II", "each load that a BRIDGE remembers");
        SagMemory x = Told.of(valley(0, 5) + WIDE + WIDE + WIDE + Told.carts(0, 20) + Told.carts(1, 30) + Told.carts(2, 40)
            + Told.carts(0, 1) + "frost at 3;");
        TOLD.row("all three", new long[] {x.load(0, 3, 0), x.load(1, 3, 0), x.load(2, 3, 0)}, 15, 25, 35);
        TOLD.row("and not ahead of it", new long[] {x.load(0, 2, 0), x.load(1, 2, 0), x.load(2, 2, 0)}, 20, 30, 40);
    }

    private static void frostToldTwice() {
        TOLD.says("II", "if it is told for t (told twice it is one)");
        String ahead = valley(0, 5) + WIDE + Told.carts(0, 40, 1);
        left(Told.of(ahead), 40, 1);
        left(Told.of(ahead + "frost at 1;"), 35, 1);
        left(Told.of(ahead + "frost at 1;frost at 1;"), 35, 1);
        left(Told.of(ahead + "frost at 1;frost at 1;frost at 1;frost at 1;"), 35, 1);
        SagMemory x = Told.of(ahead + "frost at 1;");
        x.freeze(1, 1);
        left(x, 35, 1);
        left(Told.of(ahead + "frost at 0;"), 40, 1);
    }

    private static void frostWithoutCart() {
        TOLD.says("II", "Turn t is CART t's");
        SagMemory x = Told.of(valley(0, 5) + WIDE + Told.carts(0, 40, 1) + "frost at 2;frost at 6;");
        left(x, 40, 1);
        TOLD.due("all(2)", x.all(2), -2);
        SagMemory seven = Told.of(valley(0, 5) + WIDE + Told.carts(0, 40, 1, 1, 1, 1, 1, 1) + "frost at 6;");
        left(seven, 35, 1);
    }

    private static void frostAheadOfTheCart() {
        TOLD.says("II", "1. FROST");
        // 20 is 15 by then: 15 wipes it out, 14 does not.
        left(Told.of(valley(0, 5) + WIDE + Told.carts(0, 20, 15) + "frost at 1;"), 15);
        left(Told.of(valley(0, 5) + WIDE + Told.carts(0, 20, 14) + "frost at 1;"), 15, 14);
        // FROST ahead of one that is halted comes, too.
        left(Told.of(valley(0, 5) + WIDE + Told.carts(0, 20, 50) + "ward 0 over 20 to halt;frost at 1;"), 15);
    }

    private static void wardOver() {
        TOLD.says("II", "the first WARD of that BRIDGE with an over below its load");
        int[][] cases = {{30, 29, 1}, {30, 30, 0}, {30, 31, 0}, {1, 0, 1}, {1, 1, 0}, {99, 98, 1}, {99, 99, 0}, {99, 0, 1}};
        for (int[] c : cases) {
            SagMemory x = Told.of(valley(0, 5) + WIDE + WIDE + Told.carts(0, c[0]) + "ward 0 over " + c[1] + " to 1;");
            TOLD.due("load " + c[0] + " over " + c[1], x.comes(0), c[2]);
            TOLD.due("load " + c[0] + " over " + c[1], x.goes(0), c[2]);
        }
    }

    private static void wardFirst() {
        TOLD.says("II", "the first WARD of that BRIDGE");
        String ahead = valley(0, 5) + WIDE + WIDE + WIDE + Told.carts(0, 10, 20, 30);
        SagMemory x = Told.of(ahead + "ward 1 over 0 to halt;ward 0 over 19 to 2;ward 0 over 9 to 1;ward 0 over 29 to halt;");
        TOLD.each("comes", x::comes, 1, 2, 2, -2);
        SagMemory y = Told.of(ahead + "ward 0 over 29 to halt;ward 0 over 19 to 2;ward 0 over 9 to 1;");
        TOLD.each("comes", y::comes, 1, 2, -1, -2);
        SagMemory z = Told.of(ahead + "ward 0 over 98 to 1;ward 0 over 97 to 1;ward 0 over 96 to 1;ward 0 over 95 to 1;"
            + "ward 0 over 29 to 2;");
        TOLD.each("the fifth", z::comes, 0, 0, 2, -2);
    }

    private static void wardOnce() {
        TOLD.says("II", "or sends it to another one, once (WARDS there are not asked)");
        SagMemory x = Told.of(valley(0, 5) + WIDE + WIDE + WIDE + Told.carts(0, 50) + Told.carts(1, 50) + Told.carts(2, 50)
            + "ward 0 over 0 to 1;ward 1 over 0 to 2;ward 2 over 0 to 0;");
        TOLD.each("comes", x::comes, 1, 2, 0, -2);
        SagMemory y = Told.of(valley(0, 5) + WIDE + WIDE + Told.carts(0, 50) + Told.carts(1, 50)
            + "ward 0 over 0 to 1;ward 1 over 0 to halt;");
        TOLD.each("comes", y::comes, 1, -1, -2);
        TOLD.each("goes", y::goes, 1, -1, -2);
    }

    private static void wardHalts() {
        TOLD.says("II", "halts it");
        SagMemory x = Told.of(valley(0, 5) + WIDE + Told.carts(0, 6, 5) + "ward 0 over 5 to halt;");
        TOLD.each("comes", x::comes, -1, 0, -2);
        TOLD.each("goes", x::goes, -1, 0, -2);
        TOLD.each("deep", t -> x.deep(0, t), 0, 1);
    }

    private static void brokenIsNotGoneOver() {
        TOLD.says("II", "3. It goes over, if the BRIDGE is not broken");
        SagMemory x = Told.of(valley(0, 5) + "bridge holds 20 toll 1;" + Told.carts(0, 20, 1, 3, 1, 99));
        // 20, 20 + 0, 20 + 1: above 20 by the third, which still goes over it.
        TOLD.each("goes", x::goes, 0, 0, 0, -1, -1);
        TOLD.each("comes", x::comes, 0, 0, 0, 0, 0);
        TOLD.each("sag", t -> x.sag(0, t), 20, 20, 21, 21, 21);
    }

    private static void lessHeavyAndLater() {
        TOLD.says("II", "the heaviest first, each later one less heavy and gone over later");
        SagMemory x = line(0, 9, 7, 8, 5, 5, 3, 4);
        left(x, 9, 8, 5, 4);
        TOLD.due("kept(0)", x.kept(0), 1 | 4 | 16 | 64);
        left(line(0, 1, 1, 1), 1);
    }

    private static void lawZero() {
        TOLD.says("II", "By LAW 0: the CART's load wipes out all that are no heavier, and is the last one then");
        left(line(0, 20, 10, 9), 20, 10, 9);
        left(line(0, 20, 10, 10), 20, 10);
        left(line(0, 20, 10, 11), 20, 11);
        left(line(0, 20, 10, 19), 20, 19);
        left(line(0, 20, 10, 20), 20);
        left(line(0, 20, 10, 21), 21);
        left(line(0, 99, 1), 99, 1);
        left(line(0, 99, 98, 97, 96, 95, 94, 93), 99, 98, 97, 96, 95, 94, 93);
        left(line(0, 93, 94, 95, 96, 97, 98, 99), 99);
    }

    private static void lawOneHalf() {
        TOLD.says("II", "1: so; but if it is below half of the last one");
        left(line(1, 40, 19));
        left(line(1, 40, 20), 40, 20);
        left(line(1, 41, 20));
        left(line(1, 41, 21), 41, 21);
        left(line(1, 3, 1));
        left(line(1, 2, 1), 2, 1);
        left(line(1, 1, 1), 1);
        left(line(1, 99, 49));
        left(line(1, 99, 50), 99, 50);
        left(line(1, 40, 40), 40);
        left(line(1, 40, 41), 41);
        left(line(1, 1), 1);
    }

    private static void lawOneAlone() {
        TOLD.says("II", "it wipes that one out alone, and is not remembered");
        SagMemory x = line(1, 60, 40, 30, 14);
        left(x, 60, 40);
        TOLD.due("wipes(3)", x.wipes(3), 1);
        TOLD.due("goes(3)", x.goes(3), 0);
        TOLD.due("kept(0)", x.kept(0), 3);
        // The half is of the last one, not of the heaviest.
        left(line(1, 60, 40, 20), 60, 40, 20);
        left(line(1, 60, 40, 19), 60);
        // Behind FROST the last one is what is left of it.
        left(Told.of(valley(1, 10) + WIDE + Told.carts(0, 40, 15) + "frost at 1;"), 30, 15);
        left(Told.of(valley(1, 10) + WIDE + Told.carts(0, 40, 14) + "frost at 1;"));
    }

    private static void lawTwoHalf() {
        TOLD.says("II", "it is remembered (and wipes out) only if it is above half of the last one");
        left(line(2, 40, 19), 40);
        left(line(2, 40, 20), 40);
        left(line(2, 40, 21), 40, 21);
        left(line(2, 41, 20), 41);
        left(line(2, 41, 21), 41, 21);
        left(line(2, 2, 1), 2);
        left(line(2, 1, 1), 1);
        left(line(2, 99, 49), 99);
        left(line(2, 99, 50), 99, 50);
        left(line(2, 60, 40, 40), 60, 40);
        left(line(2, 60, 40, 60), 60);
        // The half is of the last one, not of the heaviest.
        left(line(2, 60, 40, 21), 60, 40, 21);
        SagMemory x = line(2, 40, 20);
        TOLD.row("it goes over all the same", new long[] {x.goes(1), x.wipes(1), x.gives(1), x.kept(0)}, 0, 0, 0, 1);
    }

    private static void lawTwoNone() {
        TOLD.says("II", "or there is none");
        left(line(2, 1), 1);
        left(Told.of(valley(2, 50) + WIDE + Told.carts(0, 50, 1) + "frost at 1;"), 1);
        left(Told.of(valley(2, 50) + WIDE + Told.carts(0, 51, 1) + "frost at 1;"), 1);
        left(Told.of(valley(2, 50) + WIDE + Told.carts(0, 52, 1) + "frost at 1;"), 2);
    }

    private static void lawThreeEven() {
        TOLD.says("II", "3: as by 1, and as by 0 where its load is even");
        left(line(3, 40, 19));
        left(line(3, 40, 18), 40, 18);
        left(line(3, 40, 20), 40, 20);
        left(line(3, 40, 21), 40, 21);
        left(line(3, 41, 20), 41, 20);
        left(line(3, 43, 21));
        left(line(3, 42, 21), 42, 21);
        left(line(3, 99, 1));
        left(line(3, 99, 2), 99, 2);
        left(line(3, 1, 2), 2);
        left(line(3, 2, 3), 3);
        // It is the CART's load that is even, not the last one's.
        left(line(3, 39, 19));
        left(line(3, 39, 18), 39, 18);
    }

    // ---- term III ----

    private static void sagIsCut() {
        TOLD.says("III", "SAG: load k (from 0), by k and 1, cut, all together");
        // 9, 8 / 2, 7 / 3, 6 / 4, 5 / 5, 4 / 6, 3 / 7, each cut by itself.
        SagMemory x = line(0, 9, 8, 7, 6, 5, 4, 3);
        TOLD.each("sag(0, t)", t -> x.sag(0, t), 9, 13, 15, 16, 17, 17, 17, -2);
        SagMemory y = line(0, 99, 98, 97, 96, 95, 94, 93);
        TOLD.each("sag(0, t)", t -> y.sag(0, t), 99, 148, 180, 204, 223, 238, 251, -2);
        SagMemory z = line(0, 7, 1);
        TOLD.each("a half is cut", t -> z.sag(0, t), 7, 7, -2);
        SagMemory w = line(0, 7, 2);
        TOLD.each("a whole is not", t -> w.sag(0, t), 7, 8, -2);
    }

    private static void breaksAbove() {
        TOLD.says("III", "A BRIDGE BREAKS, if its SAG is above what it holds, behind a CART's going over");
        int[][] cases = {{1, 1, -1}, {1, 2, 0}, {50, 49, -1}, {50, 50, -1}, {50, 51, 0}, {98, 99, 0}, {99, 99, -1}, {300, 99, -1}};
        for (int[] c : cases) {
            SagMemory x = Told.of(valley(0, 5) + "bridge holds " + c[0] + " toll 1;" + Told.carts(0, c[1]));
            TOLD.due("holds " + c[0] + ", load " + c[1], x.breaks(0), c[2]);
            TOLD.due("holds " + c[0] + ", load " + c[1], x.broken(0), c[2] < 0 ? 0 : 1);
            TOLD.due("holds " + c[0] + ", load " + c[1], x.goes(0), 0);
        }
        // By two: 40 + 10 and 40 + 11.
        TOLD.due("40, 21 on 50", Told.of(valley(0, 5) + "bridge holds 50 toll 1;" + Told.carts(0, 40, 21)).breaks(0), -1);
        TOLD.due("40, 22 on 50", Told.of(valley(0, 5) + "bridge holds 50 toll 1;" + Told.carts(0, 40, 22)).breaks(0), 1);
    }

    private static void brokenForGood() {
        TOLD.says("III", "it is broken for good, remembers, forgets in FROST still");
        SagMemory x = Told.of(valley(0, 6) + "bridge holds 11 toll 1;" + Told.carts(0, 12, 1, 1, 1) + "frost at 2;frost at 3;");
        TOLD.each("broken", x::broken, 1, 1, 1, 1, -2);
        TOLD.each("sag(0, t)", t -> x.sag(0, t), 12, 12, 6, 0, -2);
        TOLD.each("goes", x::goes, 0, -1, -1, -1, -2);
        TOLD.due("kept(0)", x.kept(0), 0);
        TOLD.due("spare(0)", x.spare(0), 11);
    }

    private static void creakAhead() {
        TOLD.says("III", "its load less the last one remembered ahead of it (behind FROST; 0 if there is none), 0 at least");
        SagMemory x = line(0, 10, 9, 9, 10, 12);
        TOLD.each("creak", x::creak, 10, 0, 0, 1, 2, -2);
        // By FROST the last one is 5 less, or gone.
        SagMemory y = Told.of(valley(0, 5) + WIDE + Told.carts(0, 10, 7) + "frost at 1;");
        TOLD.each("creak", y::creak, 10, 2, -2);
        SagMemory z = Told.of(valley(0, 10) + WIDE + Told.carts(0, 10, 7) + "frost at 1;");
        TOLD.each("creak", z::creak, 10, 7, -2);
        // The last one is the lightest that is remembered.
        TOLD.each("creak", line(0, 30, 20, 25)::creak, 30, 0, 5, -2);
    }

    private static void payment() {
        TOLD.says("III", "It pays toll times by how much SAG of its BRIDGE is more by its going over (0 at least)");
        SagMemory x = line(0, 30, 20, 30, 31);
        // 30; 40; 30; 31.
        TOLD.each("gives", x::gives, 30, 10, -10, 1, -1000);
        TOLD.each("pays", x::pays, 90, 30, 0, 3, -2);
        SagMemory same = line(0, 30, 20, 40);
        TOLD.each("gives", same::gives, 30, 10, 0, -1000);
        TOLD.each("pays", same::pays, 90, 30, 0, -2);
        // FROST ahead of it is not its going over.
        SagMemory cold = Told.of(valley(0, 10) + WIDE + Told.carts(0, 30, 4) + "frost at 1;");
        TOLD.each("gives", cold::gives, 30, 2, -1000);
        TOLD.each("pays", cold::pays, 90, 6, -2);
        SagMemory free = Told.of(valley(0, 5) + "bridge holds 300 toll 0;" + Told.carts(0, 99));
        TOLD.each("pays", free::pays, 0, -2);
        SagMemory dear = Told.of(valley(0, 5) + "bridge holds 1 toll 9;" + Told.carts(0, 99));
        TOLD.each("pays", dear::pays, 891, -2);
    }

    // ---- promises 10 to 18 ----

    private static void goesEdges() {
        TOLD.says("P10", "NONE: over none; -2: there is none such");
        SagMemory x = Told.of(valley(0, 5) + "bridge holds 9 toll 1;" + WIDE + Told.carts(0, 10, 5) + Told.carts(1, 50, 51)
            + "ward 1 over 50 to halt;");
        TOLD.each("goes", x::goes, 0, -1, 1, -1, -2);
        TOLD.same("goes", x::goes, -2, -1, 4, 7, MIN, MAX);
        TOLD.due("goes(0) of no CART", Told.of(Told.V + WIDE).goes(0), -2);
    }

    private static void comesEdges() {
        TOLD.says("P11", "also if it does not go over it. NONE: it is halted; -2 likewise");
        SagMemory x = Told.of(valley(0, 5) + "bridge holds 9 toll 1;" + WIDE + Told.carts(0, 10, 5) + Told.carts(1, 50, 51)
            + "ward 1 over 50 to halt;");
        TOLD.each("comes", x::comes, 0, 0, 1, -1, -2);
        x.send(0, -1);
        TOLD.each("comes", x::comes, -1, 0, 1, -1, -2);
        TOLD.same("comes", x::comes, -2, -1, 4, 7, MIN, MAX);
    }

    private static void overEdges() {
        TOLD.says("P12", "CARTS that go over a BRIDGE, as bits. -2: there is none such");
        SagMemory x = Told.of(valley(0, 5) + WIDE + WIDE + Told.carts(0, 1, 2, 3, 4, 5, 6, 7));
        TOLD.each("over", x::over, 127, 0, -2);
        x.send(6, 1);
        x.send(0, -1);
        TOLD.each("over", x::over, 62, 64, -2);
        TOLD.same("over", x::over, -2, -1, 2, 3, MIN, MAX);
        TOLD.each("over with no CARTS", Told.of(Told.V + WIDE)::over, 0, -2);
        TOLD.same("over with no BRIDGES", Told.of(Told.V)::over, -2, 0);
    }

    private static void waitsEdges() {
        TOLD.says("P13", "CARTS that go over none, as bits. -2: there is no VALLEY");
        SagMemory x = Told.of(valley(0, 5) + WIDE + Told.carts(0, 1, 2, 3, 4, 5, 6, 7));
        TOLD.due("none wait", x.waits(), 0);
        for (int c = 0; c < 7; c++) {
            x.send(c, -1);
            TOLD.due("up to " + c, x.waits(), (2 << c) - 1);
        }
        TOLD.due("with no CARTS", Told.of(Told.V).waits(), 0);
        TOLD.due("of no VALLEY", new SagMemory().waits(), -2);
        SagMemory broken = Told.of(valley(0, 5) + "bridge holds 1 toll 1;" + Told.carts(0, 2, 1));
        TOLD.due("behind a broken one", broken.waits(), 2);
    }

    private static void deepEdges() {
        TOLD.says("P14", "How many loads a BRIDGE remembers behind a CART's turn. -2: there are none such");
        SagMemory x = Told.of(valley(0, 5) + WIDE + WIDE + Told.carts(0, 9, 8, 7, 6, 5, 4, 3));
        TOLD.each("deep(0, t)", t -> x.deep(0, t), 1, 2, 3, 4, 5, 6, 7, -2);
        TOLD.each("deep(1, t)", t -> x.deep(1, t), 0, 0, 0, 0, 0, 0, 0, -2);
        TOLD.same("deep(b, 0)", b -> x.deep(b, 0), -2, -1, 2, 3, MIN, MAX);
        TOLD.same("deep(0, t)", t -> x.deep(0, t), -2, -1, 7, 8, MIN, MAX);
        TOLD.due("deep(2, 7)", x.deep(2, 7), -2);
    }

    private static void loadEdges() {
        TOLD.says("P15", "Load k (0: the heaviest) that it remembers then. NONE: there is none such; -2 likewise");
        SagMemory x = Told.of(valley(0, 5) + WIDE + WIDE + Told.carts(0, 9, 8, 7, 6, 5, 4, 3));
        TOLD.each("load(0, 6, k)", k -> x.load(0, 6, k), 9, 8, 7, 6, 5, 4, 3, -1, -1);
        TOLD.each("load(0, 0, k)", k -> x.load(0, 0, k), 9, -1);
        TOLD.each("load(1, 6, k)", k -> x.load(1, 6, k), -1);
        TOLD.same("load(0, 6, k)", k -> x.load(0, 6, k), -1, -1, 7, 8, 60, MIN, MAX);
        TOLD.same("load(b, 0, 0)", b -> x.load(b, 0, 0), -2, -1, 2, 3, MIN, MAX);
        TOLD.same("load(0, t, 0)", t -> x.load(0, t, 0), -2, -1, 7, 8, MIN, MAX);
        TOLD.row("-2 ahead of NONE", new long[] {x.load(2, 0, -1), x.load(0, 7, 99), x.load(-1, -1, -1)}, -2, -2, -2);
    }

    private static void sagEdges() {
        TOLD.says("P16", "SAG (III) of a BRIDGE behind a turn. -2 likewise");
        SagMemory x = Told.of(valley(0, 5) + WIDE + WIDE + Told.carts(0, 9, 4));
        TOLD.each("sag(0, t)", t -> x.sag(0, t), 9, 11, -2);
        TOLD.each("sag(1, t)", t -> x.sag(1, t), 0, 0, -2);
        TOLD.same("sag(b, 1)", b -> x.sag(b, 1), -2, -1, 2, 3, MIN, MAX);
        TOLD.same("sag(1, t)", t -> x.sag(1, t), -2, -1, 2, 7, MIN, MAX);
        TOLD.due("sag(0, 0) of no CARTS", Told.of(Told.V + WIDE).sag(0, 0), -2);
    }

    private static void allEdges() {
        TOLD.says("P17", "SAG of all BRIDGES then. -2: there is no such turn");
        SagMemory x = Told.of(valley(0, 5) + WIDE + WIDE + WIDE + Told.carts(0, 9) + Told.carts(1, 20) + Told.carts(2, 30, 7));
        TOLD.each("all", x::all, 9, 29, 59, 62, -2);
        TOLD.same("all", x::all, -2, -1, 4, 7, MIN, MAX);
        TOLD.due("all(0) of no CARTS", Told.of(Told.V + WIDE).all(0), -2);
    }

    private static void deepestEdges() {
        TOLD.says("P18", "The BRIDGE of the greatest SAG then, the first of several. NONE: there are none; -2 likewise");
        SagMemory x = Told.of(valley(0, 5) + WIDE + WIDE + WIDE + Told.carts(2, 9) + Told.carts(1, 9) + Told.carts(0, 9)
            + Told.carts(1, 10));
        TOLD.each("deepest", x::deepest, 2, 1, 0, 1, -2);
        TOLD.same("deepest", x::deepest, -2, -1, 4, 7, MIN, MAX);
        // A turn has a CART, and a CART a BRIDGE: without BRIDGES there is no turn.
        TOLD.due("deepest(0) of no BRIDGES", Told.of(Told.V).deepest(0), -2);
        x.send(0, -1);
        TOLD.due("all at 0: the first", x.deepest(0), 0);
    }

    // ---- promises 19 to 24 ----

    private static void givesEdges() {
        TOLD.says("P19", "(0 if it goes over none; below 0: less). -1,000: there is none such");
        SagMemory x = line(1, 99, 49, 30, 30);
        // 99; wiped out by 49; 30; the same again.
        TOLD.each("gives", x::gives, 99, -99, 30, 0, -1000);
        x.send(2, -1);
        TOLD.each("gives", x::gives, 99, -99, 0, 30, -1000);
        TOLD.same("gives", x::gives, -1000, -1, 4, 7, MIN, MAX);
        TOLD.due("gives(0) of no VALLEY", new SagMemory().gives(0), -1000);
    }

    private static void creakEdges() {
        TOLD.says("P20", "CREAK (III) of a CART. -2: there is none such");
        SagMemory x = Told.of(valley(0, 5) + "bridge holds 20 toll 1;" + Told.carts(0, 20, 21, 99));
        // The third finds it broken.
        TOLD.each("creak", x::creak, 20, 1, 0, -2);
        x.send(0, -1);
        TOLD.each("creak", x::creak, 0, 21, 0, -2);
        TOLD.same("creak", x::creak, -2, -1, 3, 7, MIN, MAX);
    }

    private static void loudestEdges() {
        TOLD.says("P21", "The CART that CREAKS loudest, the first of several, if one does. NONE: none; -2: there is no VALLEY");
        TOLD.due("the first of several", line(0, 5, 9, 14, 4).loudest(), 0);
        TOLD.due("the loudest", line(0, 5, 11, 14, 4).loudest(), 1);
        TOLD.due("the last", line(0, 5, 6, 12).loudest(), 2);
        TOLD.due("by 1", line(0, 1).loudest(), 0);
        SagMemory x = line(0, 5, 6);
        x.send(0, -1);
        TOLD.due("the other", x.loudest(), 1);
        x.send(1, -1);
        TOLD.due("none does", x.loudest(), -1);
        TOLD.due("with no CARTS", Told.of(Told.V + WIDE).loudest(), -1);
        TOLD.due("of no VALLEY", new SagMemory().loudest(), -2);
    }

    private static void paysEdges() {
        TOLD.says("P22", "What a CART pays (III). -2: there is none such");
        SagMemory x = Told.of(valley(0, 5) + "bridge holds 1 toll 9;" + Told.carts(0, 99, 99));
        TOLD.each("pays", x::pays, 891, 0, -2);
        x.send(0, -1);
        TOLD.each("pays", x::pays, 0, 891, -2);
        TOLD.same("pays", x::pays, -2, -1, 2, 7, MIN, MAX);
    }

    private static void tollsEdges() {
        TOLD.says("P23", "What all pay. -2: there is no VALLEY");
        SagMemory x = Told.of(valley(0, 5) + "bridge holds 300 toll 9;" + Told.carts(0, 99, 98, 97, 96, 95, 94, 93));
        TOLD.due("all seven", x.tolls(), 9 * 251);
        for (int c = 0; c < 7; c++) {
            x.send(c, -1);
        }
        TOLD.due("none", x.tolls(), 0);
        TOLD.due("with no CARTS", Told.of(Told.V + WIDE).tolls(), 0);
        TOLD.due("of no VALLEY", new SagMemory().tolls(), -2);
        // What is less is not given back.
        TOLD.due("less is nothing", line(0, 30, 20, 30).tolls(), 120);
    }

    private static void wipesEdges() {
        TOLD.says("P24", "How many loads a CART wipes out (II). -2: there is none such");
        SagMemory x = line(0, 60, 50, 40, 30, 20, 10, 60);
        TOLD.each("wipes", x::wipes, 0, 0, 0, 0, 0, 0, 6, -2);
        TOLD.each("all but one", line(0, 60, 50, 40, 30, 20, 10, 59)::wipes, 0, 0, 0, 0, 0, 0, 5, -2);
        TOLD.each("FROST is no CART", Told.of(valley(0, 50) + WIDE + Told.carts(0, 50, 40, 1) + "frost at 2;")::wipes, 0, 0, 0, -2);
        TOLD.each("one that is not remembered", line(1, 40, 19)::wipes, 0, 1, -2);
        TOLD.each("by LAW 2 not", line(2, 40, 20)::wipes, 0, 0, -2);
        SagMemory broken = Told.of(valley(0, 5) + "bridge holds 9 toll 1;" + Told.carts(0, 10, 99));
        TOLD.each("over none", broken::wipes, 0, 0, -2);
        TOLD.same("wipes", x::wipes, -2, -1, 7, 8, MIN, MAX);
    }

    // ---- promises 25 to 32 ----

    private static void breaksEdges() {
        TOLD.says("P25", "The CART by which a BRIDGE BREAKS. NONE: by none; -2: there is none such");
        SagMemory x = Told.of(valley(0, 5) + "bridge holds 10 toll 1;bridge holds 11 toll 1;bridge holds 9 toll 1;"
            + Told.carts(0, 10) + Told.carts(1, 12) + Told.carts(0, 11) + Told.carts(0, 50) + Told.carts(2, 9));
        TOLD.each("breaks", x::breaks, 2, 1, -1, -2);
        TOLD.same("breaks", x::breaks, -2, -1, 3, MIN, MAX);
        TOLD.each("with no CARTS", Told.of(Told.V + WIDE)::breaks, -1, -2);
        TOLD.same("with no BRIDGES", Told.of(Told.V)::breaks, -2, 0);
        SagMemory first = Told.of(valley(0, 5) + "bridge holds 1 toll 1;" + Told.carts(0, 2));
        TOLD.each("by the first", first::breaks, 0, -2);
        SagMemory last = Told.of(valley(0, 5) + "bridge holds 1 toll 1;" + Told.carts(0, 1, 1, 1, 1, 1, 1, 2));
        TOLD.each("by the last", last::breaks, 6, -2);
    }

    private static void failsEdges() {
        TOLD.says("P26", "The first turn behind which a BRIDGE is broken (any). NONE: none; -2: there is no VALLEY");
        String three = valley(0, 5) + "bridge holds 5 toll 1;bridge holds 5 toll 1;bridge holds 5 toll 1;";
        TOLD.due("the third one, first",
            Told.of(three + Told.carts(0, 5) + Told.carts(2, 6) + Told.carts(1, 6) + Told.carts(0, 6)).fails(), 1);
        TOLD.due("behind the first", Told.of(three + Told.carts(1, 6)).fails(), 0);
        TOLD.due("behind the last", Told.of(three + Told.carts(0, 5, 5, 5, 5, 5, 5, 6)).fails(), 6);
        TOLD.due("none", Told.of(three + Told.carts(0, 5) + Told.carts(1, 5) + Told.carts(2, 5)).fails(), -1);
        TOLD.due("with no CARTS", Told.of(three).fails(), -1);
        TOLD.due("with no BRIDGES", Told.of(Told.V).fails(), -1);
        TOLD.due("of no VALLEY", new SagMemory().fails(), -2);
    }

    private static void spareEdges() {
        TOLD.says("P27", "By how much a BRIDGE holds more than its SAG at the end (below 0: it broke). -1,000: there is none such");
        SagMemory x = Told.of(valley(0, 5) + "bridge holds 20 toll 1;bridge holds 20 toll 1;bridge holds 1 toll 1;"
            + Told.carts(0, 20) + Told.carts(1, 21) + Told.carts(2, 99));
        TOLD.each("spare", x::spare, 0, -1, -98, -1000);
        TOLD.same("spare", x::spare, -1000, -1, 3, MIN, MAX);
        TOLD.each("with no CARTS", Told.of(Told.V + WIDE)::spare, 300, -1000);
        TOLD.due("of no VALLEY", new SagMemory().spare(0), -1000);
    }

    private static void keptEdges() {
        TOLD.says("P28", "(FROST or not: by which turn each load came). -2: there is none such");
        SagMemory x = line(0, 99, 98, 97, 96, 95, 94, 93);
        TOLD.each("kept: all", x::kept, 127, -2);
        TOLD.each("kept: the last alone", line(0, 1, 2, 3, 4, 5, 6, 7)::kept, 64, -2);
        SagMemory cold = Told.of(valley(0, 9) + WIDE + Told.carts(0, 20, 10, 9, 1) + "frost at 3;");
        // 11, 1, wiped out; then 1, which wipes out the 1 that is left of 10.
        TOLD.each("kept", cold::kept, 9, -2);
        TOLD.each("with no CARTS", Told.of(Told.V + WIDE)::kept, 0, -2);
        TOLD.same("kept", x::kept, -2, -1, 1, 3, MIN, MAX);
    }

    private static void lastEdges() {
        TOLD.says("P29", "The last load that a BRIDGE remembers behind a turn. NONE: it remembers none; -2: there are none such");
        SagMemory x = Told.of(valley(1, 5) + WIDE + WIDE + Told.carts(0, 9, 8, 3, 4));
        // 9; 9, 8; 3 is below half of 8; 4 is below half of 9.
        TOLD.each("last(0, t)", t -> x.last(0, t), 9, 8, 9, -1, -2);
        TOLD.each("last(1, t)", t -> x.last(1, t), -1, -1, -1, -1, -2);
        TOLD.same("last(b, 0)", b -> x.last(b, 0), -2, -1, 2, 3, MIN, MAX);
        TOLD.same("last(0, t)", t -> x.last(0, t), -2, -1, 4, 7, MIN, MAX);
    }

    private static void brokenEdges() {
        TOLD.says("P30", "BRIDGES that are broken behind a turn, as bits. -2: there is none such");
        SagMemory x = Told.of(valley(0, 5) + "bridge holds 9 toll 1;bridge holds 9 toll 1;bridge holds 9 toll 1;"
            + Told.carts(0, 9) + Told.carts(2, 10) + Told.carts(0, 10) + Told.carts(1, 10) + Told.carts(1, 1));
        TOLD.each("broken", x::broken, 0, 4, 5, 7, 7, -2);
        TOLD.same("broken", x::broken, -2, -1, 5, 7, MIN, MAX);
        TOLD.due("broken(0) of no CARTS", Told.of(Told.V + WIDE).broken(0), -2);
    }

    private static void freeNone() {
        TOLD.says("P31", "The greatest load (0 .. 99) that, going over a BRIDGE behind a turn");
        SagMemory x = Told.of(valley(0, 5) + WIDE + WIDE + Told.carts(0, 99, 50));
        TOLD.each("free(0, t)", t -> x.free(0, t), 99, 99, -2);
        // Where none is remembered each load is more, but 0.
        TOLD.each("free(1, t)", t -> x.free(1, t), 0, 0, -2);
        TOLD.each("free of 1", t -> line(0, 1).free(0, t), 1, -2);
        TOLD.says("P31", "-2: there are none such");
        TOLD.same("free(b, 0)", b -> x.free(b, 0), -2, -1, 2, 3, MIN, MAX);
        TOLD.same("free(0, t)", t -> x.free(0, t), -2, -1, 2, 7, MIN, MAX);
    }

    private static void freeByLaw() {
        TOLD.says("P31", "(broken or not; by LAW), makes its SAG no greater");
        // 30 + 10: 40 alone is the same, 41 is more.
        TOLD.each("free", t -> line(0, 30, 20).free(0, t), 30, 40, -2);
        // By LAW 2 none up to half of the last one is remembered; but 40 itself is no more.
        TOLD.each("free", t -> line(2, 40).free(0, t), 40, -2);
        TOLD.each("free", t -> line(1, 40).free(0, t), 40, -2);
        TOLD.each("free", t -> line(3, 40).free(0, t), 40, -2);
        TOLD.each("free behind seven", t -> line(0, 99, 98, 97, 96, 95, 94, 93).free(0, t), 99, 99, 99, 99, 99, 99, 99, -2);
        TOLD.each("free behind seven", t -> line(0, 14, 13, 12, 11, 10, 9, 8).free(0, t), 14, 20, 24, 26, 28, 29, 30, -2);
    }

    private static void freeOfBroken() {
        TOLD.says("P31", "(broken or not");
        SagMemory x = Told.of(valley(0, 5) + "bridge holds 1 toll 1;" + Told.carts(0, 20, 1) + "frost at 1;");
        TOLD.each("broken", x::broken, 1, 1, -2);
        TOLD.each("free(0, t)", t -> x.free(0, t), 20, 15, -2);
    }

    private static void mostEdges() {
        TOLD.says("P32", "The least load (1 .. 99) that would break it then. NONE: none would, it is broken; -2 likewise");
        // On an empty one: as much as it holds and 1.
        int[][] cases = {{1, 2}, {2, 3}, {50, 51}, {97, 98}, {98, 99}, {99, -1}, {300, -1}};
        for (int[] c : cases) {
            SagMemory x = Told.of(valley(0, 5) + WIDE + "bridge holds " + c[0] + " toll 1;" + Told.carts(0, 1));
            TOLD.due("most of holds " + c[0], x.most(1, 0), c[1]);
        }
        SagMemory x = Told.of(valley(0, 5) + "bridge holds 20 toll 1;" + Told.carts(0, 20, 2));
        TOLD.each("most(0, t)", t -> x.most(0, t), 2, -1, -2);
        TOLD.same("most(b, 0)", b -> x.most(b, 0), -2, -1, 1, 3, MIN, MAX);
        TOLD.same("most(0, t)", t -> x.most(0, t), -2, -1, 2, 7, MIN, MAX);
        // Seven are remembered with 251: an eighth is more by an eighth of it.
        String seven = Told.carts(0, 99, 98, 97, 96, 95, 94, 93);
        TOLD.due("behind seven", Told.of(valley(0, 5) + "bridge holds 251 toll 1;" + seven).most(0, 6), 8);
        TOLD.due("behind seven", Told.of(valley(0, 5) + "bridge holds 252 toll 1;" + seven).most(0, 6), 16);
        TOLD.due("behind seven", Told.of(valley(0, 5) + "bridge holds 262 toll 1;" + seven).most(0, 6), -1);
        // It is broken, though FROST has made it light again.
        SagMemory cold = Told.of(valley(0, 50) + "bridge holds 20 toll 1;" + Told.carts(0, 21, 2) + "frost at 1;");
        TOLD.each("most(0, t)", t -> cold.most(0, t), -1, -1, -2);
    }

    private static void mostByLaw() {
        TOLD.says("P32", "The least load (1 .. 99) that would break it then");
        String holds = "bridge holds 45 toll 1;";
        TOLD.each("LAW 0", t -> Told.of(valley(0, 5) + holds + Told.carts(0, 45)).most(0, t), 2, -2);
        TOLD.each("LAW 1", t -> Told.of(valley(1, 5) + holds + Told.carts(0, 45)).most(0, t), 23, -2);
        TOLD.each("LAW 2", t -> Told.of(valley(2, 5) + holds + Told.carts(0, 45)).most(0, t), 23, -2);
        TOLD.each("LAW 3", t -> Told.of(valley(3, 5) + holds + Told.carts(0, 45)).most(0, t), 2, -2);
        TOLD.each("LAW 1, 44", t -> Told.of(valley(1, 5) + "bridge holds 44 toll 1;" + Told.carts(0, 44)).most(0, t), 22, -2);
        TOLD.each("LAW 2, 44", t -> Told.of(valley(2, 5) + "bridge holds 44 toll 1;" + Told.carts(0, 44)).most(0, t), 23, -2);
    }
}
