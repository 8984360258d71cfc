/** Promises 10 to 32: what happens turn by turn, worked out by hand. */
public final class TurnTest {
    private static final Told TOLD = new Told("TurnTest");
    // CART 1 is sent to BRIDGE 1, which breaks by it; CART 4 finds it broken.
    private static final String MANY = Told.V + "bridge holds 60 toll 2;bridge holds 30 toll 1;"
        + "cart 20 by 0;cart 40 by 0;cart 30 by 0;cart 10 by 0;cart 25 by 1;ward 0 over 35 to 1;frost at 3;";
    private static final String WIDE = "bridge holds 300 toll 3;";

    public static void main(String[] args) {
        going();
        remembering();
        sagging();
        creaking();
        paying();
        breaking();
        keeping();
        freeLoads();
        mostLoads();
        wards();
        lawOne();
        lawTwo();
        lawThree();
        frosts();
        brokenForgets();
        noCarts();
        noneSuch();
        TOLD.close();
    }

    private interface Call {
        int of(int i);
    }

    private static void row(String call, Call asked, int... wanted) {
        for (int i = 0; i < wanted.length; i++) {
            TOLD.due(call + " of " + i, asked.of(i), wanted[i]);
        }
    }

    private static String carts(int law, int frost, int... loads) {
        StringBuilder text = new StringBuilder("valley law " + law + " frost " + frost + " odds 3;" + WIDE);
        for (int load : loads) {
            text.append("cart ").append(load).append(" by 0;");
        }
        return text.toString();
    }

    private static void going() {
        SagMemory x = Told.of(MANY);
        row("goes", x::goes, 0, 1, 0, 0, -1, -2);
        row("comes", x::comes, 0, 1, 0, 0, 1, -2);
        row("over", x::over, 13, 2, -2);
        TOLD.due("waits()", x.waits(), 16);
        x.send(0, -1);
        TOLD.due("goes(0) halted", x.goes(0), -1);
        TOLD.due("comes(0) halted", x.comes(0), -1);
        TOLD.due("waits() with it", x.waits(), 17);
    }

    private static void remembering() {
        SagMemory x = Told.of(MANY);
        row("deep(0, t)", t -> x.deep(0, t), 1, 1, 1, 2, 2, -2);
        row("deep(1, t)", t -> x.deep(1, t), 0, 1, 1, 1, 1, -2);
        row("load(0, 3, k)", k -> x.load(0, 3, k), 25, 10, -1);
        row("load(1, t, 0)", t -> x.load(1, t, 0), -1, 40, 40, 35, 35, -2);
        TOLD.due("load(0, 3, -1)", x.load(0, 3, -1), -1);
        TOLD.due("load(0, 3, max)", x.load(0, 3, Integer.MAX_VALUE), -1);
        row("last(0, t)", t -> x.last(0, t), 20, 20, 30, 10, 10, -2);
        row("last(1, t)", t -> x.last(1, t), -1, 40, 40, 35, 35, -2);
        row("wipes", x::wipes, 0, 0, 1, 0, 0, -2);
    }

    private static void sagging() {
        SagMemory x = Told.of(MANY);
        row("sag(0, t)", t -> x.sag(0, t), 20, 20, 30, 30, 30, -2);
        row("sag(1, t)", t -> x.sag(1, t), 0, 40, 40, 35, 35, -2);
        row("all", x::all, 20, 60, 70, 65, 65, -2);
        row("deepest", x::deepest, 0, 1, 1, 1, 1, -2);
        row("gives", x::gives, 20, 40, 10, 5, 0, -1000);
        SagMemory y = Told.of(carts(0, 5, 99, 98, 97, 96, 95, 94, 93));
        // Each is cut by itself: 99, 49, 32, 24, 19, 15, 13.
        row("sag(0, t)", t -> y.sag(0, t), 99, 148, 180, 204, 223, 238, 251);
        SagMemory z = Told.of(Told.V + WIDE + WIDE + "cart 7 by 1;cart 7 by 0;");
        row("deepest: the first of several", z::deepest, 1, 0);
    }

    private static void creaking() {
        SagMemory x = Told.of(MANY);
        row("creak", x::creak, 20, 40, 10, 0, 0, -2);
        TOLD.due("loudest()", x.loudest(), 1);
        SagMemory y = Told.of(carts(0, 5, 20, 10, 30) + "frost at 2;");
        // Behind FROST the last one is 5.
        row("creak", y::creak, 20, 0, 25);
        TOLD.due("loudest()", y.loudest(), 2);
        SagMemory z = Told.of(carts(0, 5, 20, 40));
        TOLD.due("loudest() the first of several", z.loudest(), 0);
        z.send(0, -1);
        z.send(1, -1);
        TOLD.due("loudest() of none", z.loudest(), -1);
        TOLD.due("creak(0) of one that waits", z.creak(0), 0);
    }

    private static void paying() {
        SagMemory x = Told.of(MANY);
        row("pays", x::pays, 40, 40, 20, 10, 0, -2);
        TOLD.due("tolls()", x.tolls(), 110);
        SagMemory y = Told.of(carts(0, 5, 30, 20, 35));
        // 30, then 30 + 10, then 35 alone: less by 5, for which nothing is paid.
        row("gives", y::gives, 30, 10, -5);
        row("pays", y::pays, 90, 30, 0);
        TOLD.due("wipes(2)", y.wipes(2), 2);
        TOLD.due("tolls()", y.tolls(), 120);
    }

    private static void breaking() {
        SagMemory x = Told.of(MANY);
        row("breaks", x::breaks, -1, 1, -2);
        TOLD.due("fails()", x.fails(), 1);
        row("broken", x::broken, 0, 2, 2, 2, 2, -2);
        row("spare", x::spare, 30, -5, -1000);
        SagMemory y = Told.of(Told.V + "bridge holds 20 toll 1;" + "cart 20 by 0;cart 1 by 0;cart 2 by 0;");
        // 20 + 0 is not above 20; 20 + 1 is.
        row("breaks", y::breaks, 2);
        TOLD.due("fails()", y.fails(), 2);
        TOLD.due("spare(0)", y.spare(0), -1);
        SagMemory z = Told.of(carts(0, 5, 99));
        TOLD.due("fails() by none", z.fails(), -1);
        row("breaks by none", z::breaks, -1);
        SagMemory w = Told.of(Told.V + "bridge holds 9 toll 1;bridge holds 9 toll 1;cart 10 by 1;cart 10 by 0;");
        row("breaks", w::breaks, 1, 0);
        TOLD.due("fails() the first", w.fails(), 0);
        row("broken", w::broken, 2, 3);
    }

    private static void keeping() {
        SagMemory x = Told.of(MANY);
        row("kept", x::kept, 12, 2, -2);
        SagMemory y = Told.of(carts(0, 5, 40, 5, 12) + "frost at 2;");
        // 35 is of CART 0; 5 is wiped out by FROST.
        row("kept", y::kept, 5);
        row("wipes", y::wipes, 0, 0, 0);
        TOLD.due("deep(0, 2)", y.deep(0, 2), 2);
    }

    private static void freeLoads() {
        SagMemory x = Told.of(MANY);
        // 25, 10 sag by 30: so does 30 alone.
        row("free(0, t)", t -> x.free(0, t), 20, 20, 30, 30, 30, -2);
        row("free(1, t)", t -> x.free(1, t), 0, 40, 40, 35, 35, -2);
        // By LAW 1 a load below half of 40 wipes it out.
        SagMemory y = Told.of(carts(1, 5, 40));
        TOLD.due("free by LAW 1", y.free(0, 0), 40);
        // By LAW 2 loads up to 20 are not remembered.
        SagMemory z = Told.of(carts(2, 5, 40));
        TOLD.due("free by LAW 2", z.free(0, 0), 40);
        SagMemory w = Told.of(carts(0, 5, 99));
        TOLD.due("free of 99", w.free(0, 0), 99);
        SagMemory v = Told.of(carts(0, 5, 99, 98, 97, 96, 95, 94, 93));
        TOLD.due("free behind seven", v.free(0, 6), 99);
    }

    private static void mostLoads() {
        SagMemory x = Told.of(MANY);
        row("most(0, t)", t -> x.most(0, t), 61, 61, 61, 61, 61, -2);
        row("most(1, t)", t -> x.most(1, t), 31, -1, -1, -1, -1, -2);
        SagMemory y = Told.of(Told.V + "bridge holds 50 toll 1;cart 45 by 0;");
        // 45 and a half of 12 are 51.
        TOLD.due("most(0, 0)", y.most(0, 0), 12);
        y.rate(0, 45);
        TOLD.due("most(0, 0)", y.most(0, 0), 2);
        SagMemory z = Told.of(carts(0, 5, 45));
        TOLD.due("most(0, 0): none would", z.most(0, 0), -1);
        SagMemory last = Told.of(Told.V + "bridge holds 98 toll 1;cart 1 by 0;");
        TOLD.due("most(0, 0): 99 alone", last.most(0, 0), 99);
        SagMemory w = Told.of("valley law 2 frost 5 odds 3;bridge holds 50 toll 1;cart 45 by 0;");
        // Above half of 45, and half of 23 is 11.
        TOLD.due("most(0, 0) by LAW 2", w.most(0, 0), 23);
        SagMemory v = Told.of("valley law 1 frost 5 odds 3;bridge holds 50 toll 1;cart 45 by 0;");
        TOLD.due("most(0, 0) by LAW 1", v.most(0, 0), 23);
        SagMemory u = Told.of("valley law 3 frost 5 odds 3;bridge holds 50 toll 1;cart 45 by 0;");
        TOLD.due("most(0, 0) by LAW 3", u.most(0, 0), 12);
    }

    private static void wards() {
        String three = Told.V + WIDE + WIDE + WIDE;
        String carts = "cart 30 by 0;cart 31 by 0;cart 51 by 0;cart 51 by 1;cart 60 by 2;";
        SagMemory x = Told.of(three + carts + "ward 0 over 30 to 1;ward 0 over 50 to halt;ward 1 over 10 to 2;");
        // The first that fits is asked alone, and none at the other BRIDGE.
        row("comes", x::comes, 0, 1, 1, 2, 2);
        SagMemory y = Told.of(three + "ward 0 over 50 to halt;ward 0 over 30 to 1;" + carts);
        row("comes", y::comes, 0, 1, -1, 1, 2);
        row("goes", y::goes, 0, 1, -1, 1, 2);
        TOLD.due("waits()", y.waits(), 4);
        SagMemory z = Told.of(three + "cart 1 by 0;ward 0 over 0 to 2;ward 2 over 0 to 0;");
        TOLD.due("comes(0)", z.comes(0), 2);
        TOLD.due("cart(0, 1)", z.cart(0, 1), 0);
    }

    private static void lawOne() {
        SagMemory x = Told.of(carts(1, 5, 40, 19, 40, 20, 9, 22, 50));
        // 19 wipes 40 out; 20 is no less than half; 9 wipes 20 out alone; 50 wipes out both.
        row("deep(0, t)", t -> x.deep(0, t), 1, 0, 1, 2, 1, 2, 1);
        row("wipes", x::wipes, 0, 1, 0, 0, 1, 0, 2);
        row("gives", x::gives, 40, -40, 40, 10, -10, 11, -1);
        row("creak", x::creak, 40, 0, 40, 0, 0, 0, 28);
        row("pays", x::pays, 120, 0, 120, 30, 0, 33, 0);
        TOLD.due("kept(0)", x.kept(0), 64);
        TOLD.due("over(0)", x.over(0), 127);
    }

    private static void lawTwo() {
        SagMemory x = Told.of(carts(2, 5, 40, 20, 21, 10, 11, 21, 45));
        row("deep(0, t)", t -> x.deep(0, t), 1, 1, 2, 2, 3, 2, 1);
        row("last(0, t)", t -> x.last(0, t), 40, 40, 21, 21, 11, 21, 45);
        row("wipes", x::wipes, 0, 0, 0, 0, 0, 2, 2);
        row("sag(0, t)", t -> x.sag(0, t), 40, 40, 50, 50, 53, 50, 45);
        TOLD.due("goes(1) all the same", x.goes(1), 0);
    }

    private static void lawThree() {
        SagMemory x = Told.of(carts(3, 5, 40, 14, 5, 3, 13, 21));
        // 14 as by 0; 5 wipes 14 out; 3 wipes 40 out; 13 alone; 21 wipes it out as by 0.
        row("deep(0, t)", t -> x.deep(0, t), 1, 2, 1, 0, 1, 1);
        row("sag(0, t)", t -> x.sag(0, t), 40, 47, 40, 0, 13, 21);
        row("wipes", x::wipes, 0, 0, 1, 1, 0, 1);
    }

    private static void frosts() {
        SagMemory x = Told.of(carts(0, 10, 30, 10, 5, 4) + "frost at 2;frost at 3;frost at 2;frost at 0;");
        // At 2 it is 20, and 10 is wiped out; at 3 it is 10, and 5 is.
        row("deep(0, t)", t -> x.deep(0, t), 1, 2, 2, 2);
        row("load(0, t, 0)", t -> x.load(0, t, 0), 30, 30, 20, 10);
        row("load(0, t, 1)", t -> x.load(0, t, 1), -1, 10, 5, 4);
        row("cold", x::cold, 1, 0, 1, 1, -2);
        row("gives: FROST aside", x::gives, 30, 5, 2, 2);
        row("wipes: FROST aside", x::wipes, 0, 0, 0, 0);
        TOLD.due("kept(0)", x.kept(0), 9);
    }

    private static void brokenForgets() {
        SagMemory x = Told.of("valley law 0 frost 6 odds 3;bridge holds 9 toll 1;cart 10 by 0;cart 3 by 0;cart 3 by 0;"
            + "frost at 1;frost at 2;");
        row("sag(0, t)", t -> x.sag(0, t), 10, 4, 0);
        row("broken for good", x::broken, 1, 1, 1);
        row("goes", x::goes, 0, -1, -1);
        TOLD.due("spare(0)", x.spare(0), 9);
        TOLD.due("breaks(0)", x.breaks(0), 0);
        TOLD.due("kept(0)", x.kept(0), 0);
        TOLD.due("free(0, 1)", x.free(0, 1), 4);
        TOLD.due("most(0, 1)", x.most(0, 1), -1);
    }

    private static void noCarts() {
        SagMemory x = Told.of(Told.V + WIDE);
        TOLD.due("waits()", x.waits(), 0);
        TOLD.due("over(0)", x.over(0), 0);
        TOLD.due("loudest()", x.loudest(), -1);
        TOLD.due("tolls()", x.tolls(), 0);
        TOLD.due("breaks(0)", x.breaks(0), -1);
        TOLD.due("fails()", x.fails(), -1);
        TOLD.due("spare(0)", x.spare(0), 300);
        TOLD.due("kept(0)", x.kept(0), 0);
        TOLD.due("all(0)", x.all(0), -2);
        TOLD.due("deep(0, 0)", x.deep(0, 0), -2);
        Told.tell(x, MANY);
        Told.tell(x, Told.V + WIDE);
        TOLD.due("spare(0) behind another VALLEY", x.spare(0), 300);
    }

    private static void noneSuch() {
        SagMemory x = Told.of(MANY);
        int[] wrong = {-1, 5, 7, Integer.MAX_VALUE, Integer.MIN_VALUE};
        for (int cart : wrong) {
            TOLD.due("goes", x.goes(cart), -2);
            TOLD.due("comes", x.comes(cart), -2);
            TOLD.due("all", x.all(cart), -2);
            TOLD.due("deepest", x.deepest(cart), -2);
            TOLD.due("gives", x.gives(cart), -1000);
            TOLD.due("creak", x.creak(cart), -2);
            TOLD.due("pays", x.pays(cart), -2);
            TOLD.due("wipes", x.wipes(cart), -2);
            TOLD.due("broken", x.broken(cart), -2);
        }
        int[][] pairs = {{-1, 0}, {2, 0}, {3, 0}, {0, -1}, {0, 5}, {0, 7}, {Integer.MAX_VALUE, 0}, {0, Integer.MIN_VALUE}};
        for (int[] pair : pairs) {
            TOLD.due("deep", x.deep(pair[0], pair[1]), -2);
            TOLD.due("load", x.load(pair[0], pair[1], 0), -2);
            TOLD.due("sag", x.sag(pair[0], pair[1]), -2);
            TOLD.due("last", x.last(pair[0], pair[1]), -2);
            TOLD.due("free", x.free(pair[0], pair[1]), -2);
            TOLD.due("most", x.most(pair[0], pair[1]), -2);
        }
        int[] bridges = {-1, 2, 3, Integer.MAX_VALUE, Integer.MIN_VALUE};
        for (int bridge : bridges) {
            TOLD.due("over", x.over(bridge), -2);
            TOLD.due("breaks", x.breaks(bridge), -2);
            TOLD.due("spare", x.spare(bridge), -1000);
            TOLD.due("kept", x.kept(bridge), -2);
        }
    }
}
