import java.util.function.ToLongFunction;

/** Edges that terms IV to IX and promises 33 to 60 name: each sentence has a test of its own. */
public final class SearchEdgeTest {
    private static final Told TOLD = new Told("SearchEdgeTest");
    private static final String WIDE = "bridge holds 300 toll 1;";
    private static final int MIN = Integer.MIN_VALUE;
    private static final int MAX = Integer.MAX_VALUE;

    public static void main(String[] args) {
        ordersAsByActs();
        frostsStayAtTurns();
        routesInPlace();
        routesOfHalted();
        routesMeetWards();
        leastEdges();
        orderEdges();
        orderIsTheLeastRow();
        ordersEdges();
        acrossEdges();
        routesEdges();
        routeEdges();
        safeEdges();
        sparedEdges();
        worstEdges();
        forgetEdges();
        rowJustSo();
        setsOfThoseTold();
        setsAside();
        setsEdges();
        surelyEdges();
        neverEdges();
        fewestEdges();
        askEdges();
        leavesEdges();
        setsRefused();
        loadsEdges();
        lightAndHeavyEdges();
        bookThreeEach();
        bookNumbers();
        bookRefused();
        liarsEdges();
        lawsEdges();
        byEdges();
        lawEdges();
        withoutCart();
        shareEdges();
        shareRefused();
        gameLosses();
        gameEdges();
        gameInPlace();
        gameRefused();
        chanceEdges();
        chanceInPlace();
        lowestTerms();
        meanEdges();
        chanceRefused();
        TOLD.close();
    }

    private static String valley(int law, int frost, int odds) {
        return "valley law " + law + " frost " + frost + " odds " + odds + ";";
    }

    /** CARTS one behind another over one BRIDGE. */
    private static SagMemory line(int law, int... loads) {
        return Told.of(valley(law, 5, 3) + WIDE + Told.carts(0, loads));
    }

    private static void ofNoValley(ToLongFunction<SagMemory> call) {
        TOLD.due("of a new object", call.applyAsLong(new SagMemory()), -2);
        SagMemory x = line(0, 9);
        Told.tell(x, "");
        TOLD.due("of an empty TAPE", call.applyAsLong(x), -2);
    }

    // ---- terms IV and V ----

    private static void ordersAsByActs() {
        TOLD.says("IV", "with their loads and BRIDGES (as by acts)");
        SagMemory x = Told.of(valley(0, 5, 3) + WIDE + WIDE + Told.carts(0, 20, 10));
        TOLD.row("as told", new long[] {x.least(), x.orders(), x.across()}, 20, 1, 2);
        x.send(1, 1);
        TOLD.row("by two", new long[] {x.least(), x.orders(), x.across()}, 30, 2, 2);
        x.send(1, -1);
        TOLD.row("one halted", new long[] {x.least(), x.orders(), x.across()}, 20, 2, 1);
        x.undo();
        x.undo();
        TOLD.row("taken back", new long[] {x.least(), x.orders(), x.across()}, 20, 1, 2);
    }

    private static void frostsStayAtTurns() {
        TOLD.says("IV", "FROSTS stay at turns");
        SagMemory x = Told.of(valley(0, 50, 3) + WIDE + Told.carts(0, 10, 50, 9) + "frost at 2;");
        // 50 ahead of turn 2 is wiped out there, whoever comes at it: 9 alone is left then.
        TOLD.due("least()", x.least(), 9);
        TOLD.each("order", x::order, 0, 1, 2, -2);
        TOLD.due("orders()", x.orders(), 2);
        x.freeze(2, 0);
        x.freeze(1, 1);
        // Now at turn 1: 50 comes first, and what comes behind it: 10 last leaves it alone.
        TOLD.due("least() by acts", x.least(), 10);
        TOLD.each("order", x::order, 1, 2, 0, -2);
        TOLD.due("orders()", x.orders(), 1);
    }

    private static void routesInPlace() {
        TOLD.says("V", "a row of BRIDGES, CART by CART, in place of those by which they come");
        SagMemory x = Told.of(valley(0, 5, 3) + WIDE + WIDE + WIDE + Told.carts(2, 10, 20));
        TOLD.row("routes", new long[] {x.all(1), x.routes(), x.route(0), x.route(1)}, 20, 20, 0, 0);
        x.send(0, 1);
        TOLD.row("whatever acts say", new long[] {x.all(1), x.routes(), x.route(0), x.route(1)}, 30, 20, 0, 0);
    }

    private static void routesOfHalted() {
        TOLD.says("V", "(also of those halted by acts)");
        SagMemory x = line(0, 10, 9);
        x.send(0, -1);
        x.send(1, -1);
        TOLD.row("halted", new long[] {x.all(1), x.waits(), x.routes(), x.safe()}, 0, 3, 14, 2);
    }

    private static void routesMeetWards() {
        TOLD.says("V", "WARDS as told");
        SagMemory x = Told.of(valley(0, 5, 3) + WIDE + WIDE + Told.carts(0, 10, 20) + "ward 1 over 10 to halt;");
        // Only the heavier one is halted there; 10 is least with it.
        TOLD.row("routes", new long[] {x.routes(), x.route(0), x.route(1), x.safe()}, 10, 0, 1, 2);
        SagMemory y = Told.of(valley(0, 5, 3) + WIDE + WIDE + Told.carts(0, 10, 20) + "ward 1 over 9 to halt;");
        TOLD.row("routes", new long[] {y.routes(), y.route(0), y.route(1), y.safe()}, 0, 1, 1, 2);
        SagMemory z = Told.of(valley(0, 5, 3) + WIDE + WIDE + Told.carts(0, 10) + "ward 0 over 9 to 1;");
        TOLD.row("the BRIDGE told, not the one come to", new long[] {z.routes(), z.route(0), z.goes(0)}, 10, 0, 1);
    }

    // ---- promises 33 to 42 ----

    private static void leastEdges() {
        TOLD.says("P33", "the least SAG of all BRIDGES at the end by any order of the CARTS. -2: there is no VALLEY");
        TOLD.due("seven", line(0, 99, 98, 97, 96, 95, 94, 93).least(), 99);
        TOLD.due("one", line(0, 5).least(), 5);
        TOLD.due("no CARTS", Told.of(Told.V + WIDE).least(), 0);
        TOLD.due("no BRIDGES", Told.of(Told.V).least(), 0);
        ofNoValley(SagMemory::least);
    }

    private static void orderEdges() {
        TOLD.says("P34", "The CART at place i (from 0) by the first such order (the least row). -2: there is none such");
        SagMemory x = line(0, 99, 98, 97, 96, 95, 94, 93);
        TOLD.each("order", x::order, 1, 2, 3, 4, 5, 6, 0, -2);
        TOLD.same("order", x::order, -2, -1, 7, 8, MIN, MAX);
        SagMemory one = line(0, 5);
        TOLD.each("order of one", one::order, 0, -2);
        TOLD.same("order of no CARTS", Told.of(Told.V + WIDE)::order, -2, -1, 0, 1);
        ofNoValley(y -> y.order(0));
    }

    private static void orderIsTheLeastRow() {
        TOLD.says("P34", "(the least row)");
        // All orders do: the first is as told.
        TOLD.each("all alike", line(0, 9, 9, 9)::order, 0, 1, 2, -2);
        // 30 last: of 1 0 2 and 0 1 2 the latter.
        TOLD.each("the heaviest is last already", line(0, 10, 20, 30)::order, 0, 1, 2, -2);
        TOLD.each("the heaviest is first", line(0, 30, 20, 10)::order, 1, 2, 0, -2);
    }

    private static void ordersEdges() {
        TOLD.says("P35", "How many orders do. -2: there is no VALLEY");
        TOLD.due("all of seven", line(0, 9, 9, 9, 9, 9, 9, 9).orders(), 5040);
        TOLD.due("the heaviest last", line(0, 9, 8, 7, 6, 5, 4, 3).orders(), 720);
        TOLD.due("of one", line(0, 9).orders(), 1);
        TOLD.due("of no CARTS: the empty one", Told.of(Told.V + WIDE).orders(), 1);
        // 19 behind 40 wipes it out: 0 at the end; 40 behind 19 is 40.
        TOLD.due("of two by LAW 1", line(1, 40, 19).orders(), 1);
        TOLD.due("of two the other way", line(1, 19, 40).order(0), 1);
        ofNoValley(SagMemory::orders);
    }

    private static void acrossEdges() {
        TOLD.says("P36", "The most CARTS that go over by any order. -2 likewise");
        TOLD.due("all", line(0, 9, 8, 7, 6, 5, 4, 3).across(), 7);
        TOLD.due("none", Told.of(valley(0, 5, 3) + WIDE + Told.carts(0, 9, 8) + "ward 0 over 0 to halt;").across(), 0);
        TOLD.due("no CARTS", Told.of(Told.V + WIDE).across(), 0);
        SagMemory x = Told.of(valley(0, 5, 3) + "bridge holds 9 toll 1;" + Told.carts(0, 50, 9, 8, 7, 6, 5, 4));
        // 50 last; but 9 and 8 sag by 13, so the lighter ones come first.
        TOLD.row("now, and at most", new long[] {Integer.bitCount(x.over(0)), x.across()}, 1, 7);
        SagMemory y = Told.of(valley(2, 5, 3) + "bridge holds 9 toll 1;" + Told.carts(0, 50, 49));
        TOLD.row("either breaks it", new long[] {Integer.bitCount(y.over(0)), y.across()}, 1, 1);
        ofNoValley(SagMemory::across);
    }

    private static void routesEdges() {
        TOLD.says("P37", "the least SAG of all BRIDGES at the end by any. -2 likewise");
        TOLD.due("seven by three", Told.of(valley(0, 5, 3) + WIDE + WIDE + WIDE + Told.carts(0, 1, 1, 1, 1, 1, 1, 1)).routes(), 1);
        TOLD.due("on one BRIDGE as it is", line(0, 9, 8).routes(), 13);
        TOLD.due("no CARTS", Told.of(Told.V + WIDE).routes(), 0);
        TOLD.due("no BRIDGES", Told.of(Told.V).routes(), 0);
        ofNoValley(SagMemory::routes);
    }

    private static void routeEdges() {
        TOLD.says("P38", "The BRIDGE told to a CART by the first such (the least row). -2: there is none such");
        SagMemory x = Told.of(valley(0, 5, 3) + WIDE + WIDE + WIDE + Told.carts(0, 1, 2, 3, 4, 5, 6, 7)
            + "ward 2 over 0 to halt;ward 1 over 6 to halt;");
        // All by 2 are halted, and the last one by 1, too; that is the least row of those that make 0.
        TOLD.each("route", x::route, 2, 2, 2, 2, 2, 2, 1, -2);
        TOLD.same("route", x::route, -2, -1, 7, 8, MIN, MAX);
        TOLD.same("route of no CARTS", Told.of(Told.V + WIDE)::route, -2, -1, 0, 1);
        ofNoValley(y -> y.route(0));
    }

    private static void safeEdges() {
        TOLD.says("P39", "The most CARTS that go over by any ROUTES. -2: there is no VALLEY");
        TOLD.due("all", line(0, 9, 8, 7, 6, 5, 4, 3).safe(), 7);
        TOLD.due("none", Told.of(valley(0, 5, 3) + WIDE + Told.carts(0, 9, 8) + "ward 0 over 0 to halt;").safe(), 0);
        TOLD.due("no CARTS", Told.of(Told.V + WIDE).safe(), 0);
        String weak = "bridge holds 1 toll 1;";
        TOLD.due("one each", Told.of(valley(0, 5, 3) + weak + weak + weak + Told.carts(0, 2, 2, 2, 2, 2, 2, 2)).safe(), 3);
        TOLD.due("one alone", Told.of(valley(0, 5, 3) + weak + Told.carts(0, 2, 2, 2, 2, 2, 2, 2)).safe(), 1);
        ofNoValley(SagMemory::safe);
    }

    private static void sparedEdges() {
        TOLD.says("P40", "by how much SAG of all BRIDGES at the end is less without a CART (below 0: more). -1,000: there"
            + " is none such");
        SagMemory x = line(1, 99, 49, 30);
        // 99; wiped out; 30. Without 99: 49, 30 as LAW 1 has it; without 49: 99 is wiped out by 30; without 30: none.
        TOLD.each("spared", x::spared, -34, 30, 30, -1000);
        TOLD.same("spared", x::spared, -1000, -1, 3, 7, MIN, MAX);
        TOLD.due("spared(0) of no CARTS", Told.of(Told.V + WIDE).spared(0), -1000);
        TOLD.due("spared(0) of no VALLEY", new SagMemory().spared(0), -1000);
        TOLD.each("one", line(0, 9)::spared, 9, -1000);
        TOLD.each("0", line(0, 9, 9)::spared, 0, 0, -1000);
    }

    private static void worstEdges() {
        TOLD.says("P41", "The CART without which it is least, if less than now, the first of several. NONE: none; -2:"
            + " there is no VALLEY");
        TOLD.due("the least", line(0, 20, 30, 10).worst(), 1);
        TOLD.due("the first of several", Told.of(valley(0, 5, 3) + WIDE + WIDE + Told.carts(0, 9) + Told.carts(1, 9)).worst(), 0);
        TOLD.due("the last", line(0, 9, 9, 20).worst(), 2);
        TOLD.due("as much as now is not less", line(0, 9, 9).worst(), -1);
        TOLD.due("more than now is not less", line(1, 99, 49).worst(), -1);
        TOLD.due("no CARTS", Told.of(Told.V + WIDE).worst(), -1);
        ofNoValley(SagMemory::worst);
    }

    private static void forgetEdges() {
        TOLD.says("P42", "FROST besides makes SAG of all BRIDGES at the end least, if less than now, the first of several."
            + " NONE: none; -2 likewise");
        TOLD.due("nothing is there to forget ahead of the first", line(0, 9).forget(), -1);
        TOLD.due("ahead of the second", line(0, 9, 1).forget(), 1);
        TOLD.due("the last", line(0, 9, 10, 1).forget(), 2);
        TOLD.due("the first of several",
            Told.of(valley(0, 5, 3) + WIDE + WIDE + Told.carts(0, 9) + Told.carts(1, 1, 1)).forget(), 1);
        // Wiped out at the end by 99: as much as now.
        TOLD.due("no less than now", line(0, 9, 8, 99).forget(), -1);
        SagMemory x = line(0, 9, 1);
        x.freeze(1, 1);
        TOLD.due("told twice it is one", x.forget(), -1);
        x.undo();
        TOLD.due("taken back", x.forget(), 1);
        // By LAW 1 FROST can make it more, too: 30 is below half of 61, not of 60.
        SagMemory y = Told.of(valley(1, 1, 3) + WIDE + Told.carts(0, 61, 30));
        TOLD.row("more", new long[] {y.all(1), y.forget()}, 0, -1);
        TOLD.due("no CARTS", Told.of(Told.V + WIDE).forget(), -1);
        ofNoValley(SagMemory::forget);
    }

    // ---- term VI, promises 43 to 48 ----

    private static SagMemory filled(String text, long... numbers) {
        SagMemory x = Told.of(text);
        Told.fill(x, 0, 1, numbers);
        return x;
    }

    private static void rowJustSo() {
        TOLD.says("VI", "A SLOT's row is what a BRIDGE remembers, the heaviest first, just so");
        String text = valley(0, 5, 3) + WIDE + Told.carts(0, 30, 20, 10);
        TOLD.due("30, 20, 10", filled(text, 30, 20, 10).sets(0, 0), 1);
        TOLD.due("the other way", filled(text, 10, 20, 30).sets(0, 0), 0);
        TOLD.due("one more", filled(text, 30, 20, 10, 0).sets(0, 0), 0);
        TOLD.due("one less", filled(text, 30, 20, 9).sets(0, 0), 0);
        TOLD.due("begun alone", filled(text, 30, 10).sets(0, 0), 1);
        TOLD.due("below 0", filled(text, -30).sets(0, 0), 0);
        TOLD.due("full of 0", filled(text, new long[60]).sets(0, 0), 0);
    }

    private static void setsOfThoseTold() {
        TOLD.says("VI", "CARTS of a set (of those told by it) go over it in their order");
        String text = valley(0, 5, 3) + WIDE + WIDE + Told.carts(0, 10) + Told.carts(1, 20) + Told.carts(0, 30);
        TOLD.row("of BRIDGE 0", new long[] {filled(text, 30).sets(0, 0), filled(text, 20).sets(0, 0),
            filled(text, 10).sets(0, 0), filled(text, 30, 10).sets(0, 0)}, 2, 0, 1, 0);
        TOLD.row("of BRIDGE 1", new long[] {filled(text, 20).sets(0, 1), filled(text, 30).sets(0, 1),
            filled(text).sets(0, 1)}, 1, 0, 1);
    }

    private static void setsAside() {
        TOLD.says("VI", "(no WARDS, no FROST, acts aside, it never breaks), by LAW");
        SagMemory x = filled(valley(0, 50, 10) + "bridge holds 1 toll 1;" + WIDE + Told.carts(0, 30, 20)
            + "ward 0 over 0 to halt;frost at 1;", 30, 20);
        TOLD.row("now nothing goes over", new long[] {x.over(0), x.sets(0, 0), x.surely(0, 0)}, 0, 1, 3);
        x.send(0, 1);
        x.send(1, -1);
        x.freeze(0, 1);
        TOLD.row("acts aside", new long[] {x.sets(0, 0), x.surely(0, 0), x.sets(0, 1)}, 1, 3, 0);
        long[] rows = new long[4];
        for (int law = 0; law < 4; law++) {
            rows[law] = filled(valley(law, 5, 3) + WIDE + Told.carts(0, 40, 18, 19), 40).sets(0, 0);
        }
        // Sets that leave 40: alone; by 1 none is left behind 18 or 19 alone, so neither; by 2 all four with 40; by 3 18 and
        // 19 both: 40, 18 and then 19, which wipes 18 out and is the last one.
        TOLD.row("by LAW", rows, 1, 1, 4, 1);
    }

    private static void setsEdges() {
        TOLD.says("P43", "how many. -2: there is no such SLOT, BRIDGE, no VALLEY; -6: it has nothing");
        String alike = valley(0, 5, 3) + WIDE + Told.carts(0, 9, 9, 9, 9, 9, 9, 9);
        TOLD.due("all but the empty one", filled(alike, 9).sets(0, 0), 127);
        TOLD.due("the empty one", filled(alike).sets(0, 0), 1);
        TOLD.due("none", filled(alike, 8).sets(0, 0), 0);
        TOLD.due("of no CARTS", filled(valley(0, 5, 3) + WIDE).sets(0, 0), 1);
        TOLD.due("of no CARTS", filled(valley(0, 5, 3) + WIDE, 9).sets(0, 0), 0);
    }

    private static void surelyEdges() {
        TOLD.says("P44", "CARTS that are in all of these, as bits. NONE: there are none; -2, -6 likewise");
        String seven = valley(0, 5, 3) + WIDE + Told.carts(0, 9, 8, 7, 6, 5, 4, 3);
        TOLD.due("all seven", filled(seven, 9, 8, 7, 6, 5, 4, 3).surely(0, 0), 127);
        TOLD.due("the first and the last", filled(seven, 9, 3).surely(0, 0), 65);
        TOLD.due("none of them, in one set", filled(seven).surely(0, 0), 0);
        TOLD.due("no set", filled(seven, 3, 9).surely(0, 0), -1);
        TOLD.due("in none of all", filled(valley(0, 5, 3) + WIDE + Told.carts(0, 9, 9), 9).surely(0, 0), 0);
    }

    private static void neverEdges() {
        TOLD.says("P45", "CARTS told by it that are in none. NONE, -2, -6 likewise");
        String seven = valley(0, 5, 3) + WIDE + Told.carts(0, 9, 8, 7, 6, 5, 4, 3);
        TOLD.due("all seven", filled(seven).never(0, 0), 127);
        TOLD.due("none", filled(seven, 9, 8, 7, 6, 5, 4, 3).never(0, 0), 0);
        TOLD.due("no set", filled(seven, 3, 9).never(0, 0), -1);
        String two = valley(0, 5, 3) + WIDE + WIDE + Told.carts(0, 9) + Told.carts(1, 9) + Told.carts(0, 8);
        TOLD.due("told by it alone", filled(two).never(0, 0), 5);
        TOLD.due("told by it alone", filled(two).never(0, 1), 2);
    }

    private static void fewestEdges() {
        TOLD.says("P46", "The least such set of fewest CARTS, as bits. NONE, -2, -6 likewise");
        TOLD.due("the least of several", filled(valley(0, 5, 3) + WIDE + Told.carts(0, 9, 9, 9, 9, 9, 9, 9), 9).fewest(0, 0), 1);
        // 20, 10 by 0 1, 0 2; 1 2 is none.
        TOLD.due("the least", filled(valley(0, 5, 3) + WIDE + Told.carts(0, 20, 10, 10), 20, 10).fewest(0, 0), 3);
        // Of 2 alone, 3 alone, and 0 1 2, by which 30 is wiped out.
        TOLD.due("fewest", filled(valley(1, 5, 3) + WIDE + Told.carts(0, 30, 14, 20, 20), 20).fewest(0, 0), 4);
        TOLD.due("the empty one", filled(valley(0, 5, 3) + WIDE + Told.carts(0, 9)).fewest(0, 0), 0);
        TOLD.due("the last alone", filled(valley(0, 5, 3) + WIDE + Told.carts(0, 1, 2, 3, 4, 5, 6, 7), 7).fewest(0, 0), 64);
        TOLD.due("no set", filled(valley(0, 5, 3) + WIDE + Told.carts(0, 9), 8).fewest(0, 0), -1);
    }

    private static void askEdges() {
        TOLD.says("P47", "leaves fewest of these at worst, if fewer than now, the first of several. NONE: none; -2, -6 likewise");
        String late = valley(0, 5, 3) + WIDE + Told.carts(0, 1, 2, 9);
        // 0 and 1 each halve the four sets; 2 is in all of them.
        TOLD.due("the first of several", filled(late, 9).ask(0, 0), 0);
        TOLD.due("two sets", filled(late, 2).ask(0, 0), 0);
        TOLD.due("one set: none", filled(late, 1).ask(0, 0), -1);
        TOLD.due("no set: none", filled(late, 8).ask(0, 0), -1);
        // Of 9, 9, 5, 9 the sets that leave 9: each with 3; and of 0, 1 not 2 alone: CART 3 is in 8 of 11.
        SagMemory x = filled(valley(0, 5, 3) + WIDE + Told.carts(0, 9, 9, 5, 9), 9);
        TOLD.row("fewest at worst", new long[] {x.sets(0, 0), x.ask(0, 0), x.leaves(0, 0)}, 11, 0, 6);
        // CARTS by another BRIDGE leave all of them.
        SagMemory y = filled(valley(0, 5, 3) + WIDE + WIDE + Told.carts(1, 9) + Told.carts(0, 1, 9), 9);
        TOLD.row("by another", new long[] {y.sets(0, 0), y.ask(0, 0), y.leaves(0, 0)}, 2, 1, 1);
    }

    private static void leavesEdges() {
        TOLD.says("P48", "How many it leaves at worst (as now without). -2, -6 likewise");
        String late = valley(0, 5, 3) + WIDE + Told.carts(0, 1, 2, 9);
        TOLD.due("half", filled(late, 9).leaves(0, 0), 2);
        TOLD.due("one", filled(late, 1).leaves(0, 0), 1);
        TOLD.due("none", filled(late, 8).leaves(0, 0), 0);
        TOLD.due("of 127", filled(valley(0, 5, 3) + WIDE + Told.carts(0, 9, 9, 9, 9, 9, 9, 9), 9).leaves(0, 0), 64);
    }

    private static void everySet(SagMemory x, int slot, int bridge, long wanted) {
        TOLD.row("sets, surely, never, fewest, ask, leaves of " + slot + ", " + bridge,
            new long[] {x.sets(slot, bridge), x.surely(slot, bridge), x.never(slot, bridge), x.fewest(slot, bridge),
                x.ask(slot, bridge), x.leaves(slot, bridge)}, wanted, wanted, wanted, wanted, wanted, wanted);
    }

    private static void setsRefused() {
        TOLD.says("P43", "-2: there is no such SLOT, BRIDGE, no VALLEY; -6: it has nothing");
        SagMemory x = filled(valley(0, 5, 3) + WIDE + WIDE + Told.carts(0, 9), 9);
        for (int slot : new int[] {-1, 4, 5, MIN, MAX}) {
            everySet(x, slot, 0, -2);
        }
        for (int bridge : new int[] {-1, 2, 3, MIN, MAX}) {
            everySet(x, 0, bridge, -2);
        }
        for (int slot = 1; slot < 4; slot++) {
            everySet(x, slot, 0, -6);
            everySet(x, slot, 1, -6);
            everySet(x, slot, 2, -2);
            everySet(x, slot, -1, -2);
        }
        SagMemory none = new SagMemory();
        everySet(none, 0, 0, -2);
        none.row(0, 0, 0);
        everySet(none, 0, 0, -2);
        SagMemory bare = filled(Told.V);
        everySet(bare, 0, 0, -2);
        SagMemory last = Told.of(valley(0, 5, 3) + WIDE + WIDE + WIDE + Told.carts(2, 9));
        Told.fill(last, 3, 0, 9);
        TOLD.row("the last SLOT and BRIDGE", new long[] {last.sets(3, 2), last.surely(3, 2), last.never(3, 2),
            last.fewest(3, 2), last.ask(3, 2), last.leaves(3, 2)}, 1, 1, 0, 1, -1, 1);
    }

    // ---- promises 49 to 55 ----

    private static void loadsEdges() {
        TOLD.says("P49", "how many loads (1 .. 99) of a CART, in place of the one told, fit a SLOT's row");
        SagMemory x = line(0, 20, 10);
        x.row(0, 2, 0);
        TOLD.each("all", c -> x.loads(0, c), 99, 99, -2);
        Told.fill(x, 0, 2, 0, 0, 20);
        TOLD.each("one; any", c -> x.loads(0, c), 1, 99, -2);
        Told.fill(x, 0, 2, 0, 0, 99);
        TOLD.each("the greatest; none", c -> x.loads(0, c), 1, 0, -2);
        Told.fill(x, 0, 2, 0, 0, 1);
        TOLD.each("the least; none", c -> x.loads(0, c), 1, 0, -2);
        Told.fill(x, 0, 2, 0, 0, 0);
        TOLD.each("0 is no load", c -> x.loads(0, c), 0, 0, -2);
        Told.fill(x, 0, 2, 0, 0, 100);
        TOLD.each("nor is 100", c -> x.loads(0, c), 0, 0, -2);
    }

    private static void lightAndHeavyEdges() {
        SagMemory x = line(0, 20, 10);
        TOLD.says("P50", "The least such load. NONE: none; -2, -6 likewise");
        x.row(0, 2, 0);
        TOLD.each("any", c -> x.light(0, c), 1, 1, -2);
        Told.fill(x, 0, 2, 0, 0, 99);
        TOLD.each("99; none", c -> x.light(0, c), 99, -1, -2);
        Told.fill(x, 0, 2, 0, 1, 25);
        TOLD.each("20; 10, 11 or 25", c -> x.light(0, c), 20, 10, -2);
        TOLD.says("P51", "The greatest. NONE, -2, -6 likewise");
        TOLD.each("20; 10, 11 or 25", c -> x.heavy(0, c), 20, 25, -2);
        Told.fill(x, 0, 2, 0, 0, 1);
        TOLD.each("1; none", c -> x.heavy(0, c), 1, -1, -2);
        x.row(0, 2, 0);
        TOLD.each("any", c -> x.heavy(0, c), 99, 99, -2);
    }

    private static void everyBook(SagMemory x, int slot, int cart, long wanted) {
        TOLD.row("loads, light, heavy of " + slot + ", " + cart,
            new long[] {x.loads(slot, cart), x.light(slot, cart), x.heavy(slot, cart)}, wanted, wanted, wanted);
    }

    private static void bothBooks(SagMemory x, int slot, long wanted) {
        TOLD.row("liars, laws of " + slot, new long[] {x.liars(slot), x.laws(slot)}, wanted, wanted);
    }

    private static void bookThreeEach() {
        TOLD.says("P49", "not three each");
        SagMemory x = Told.of(valley(0, 5, 3) + WIDE + WIDE + Told.carts(1, 9, 9));
        for (int n = 0; n <= 60; n++) {
            for (int width = 0; width < 4; width++) {
                x.row(0, width, n);
                if (n % 3 == 0) {
                    // All 0: BRIDGE 0, turn 0, SAG 0, as it is.
                    TOLD.row("of " + n, new long[] {x.loads(0, 0), x.light(0, 0), x.heavy(0, 0), x.liars(0), x.laws(0)},
                        99, 1, 99, 0, 15);
                } else {
                    everyBook(x, 0, 0, -2);
                    bothBooks(x, 0, -2);
                }
            }
        }
    }

    private static void bookNumbers() {
        TOLD.says("P49", "a number is none such (SAG 0 .. 999; asked last)");
        String[] valleys = {valley(0, 5, 3) + WIDE + Told.carts(0, 9), valley(0, 5, 3) + WIDE + WIDE + WIDE
            + Told.carts(2, 9, 9, 9, 9, 9, 9, 9)};
        for (int v = 0; v < valleys.length; v++) {
            SagMemory x = Told.of(valleys[v]);
            int bridges = x.count(3);
            int turns = x.count(4);
            long[] bounds = {bridges - 1, turns - 1, 999};
            // In the first, a middle and the last three of a full row.
            for (int at : new int[] {0, 27, 57}) {
                for (int i = 0; i < 3; i++) {
                    for (long number : new long[] {MIN, -1, 0, bounds[i], bounds[i] + 1, MAX, Long.MIN_VALUE, Long.MAX_VALUE,
                        4294967296L, 4294967296L + bounds[i]}) {
                        x.row(0, 3, 60);
                        x.write(0, at + i, number);
                        boolean such = number >= 0 && number <= bounds[i];
                        TOLD.due("loads with " + number, x.loads(0, 0) == -2 ? 0 : 1, such ? 1 : 0);
                        TOLD.due("light with " + number, x.light(0, 0) == -2 ? 0 : 1, such ? 1 : 0);
                        TOLD.due("heavy with " + number, x.heavy(0, 0) == -2 ? 0 : 1, such ? 1 : 0);
                        TOLD.due("liars with " + number, x.liars(0) == -2 ? 0 : 1, such ? 1 : 0);
                        TOLD.due("laws with " + number, x.laws(0) == -2 ? 0 : 1, such ? 1 : 0);
                    }
                }
            }
        }
        // One that is none such behind three that do not fit.
        SagMemory x = Told.of(valleys[0]);
        Told.fill(x, 0, 3, 0, 0, 5, 0, 0, 1000);
        everyBook(x, 0, 0, -2);
        bothBooks(x, 0, -2);
        // A VALLEY without CARTS has no turn.
        SagMemory bare = Told.of(Told.V + WIDE);
        bare.row(0, 0, 3);
        bothBooks(bare, 0, -2);
        bare.row(0, 0, 0);
        TOLD.row("of nothing", new long[] {bare.liars(0), bare.laws(0), bare.loads(0, 0)}, 0, 15, -2);
    }

    private static void bookRefused() {
        TOLD.says("P49", "-2: there is no such SLOT, CART, no VALLEY");
        SagMemory x = line(0, 20, 10);
        x.row(0, 2, 0);
        for (int slot : new int[] {-1, 4, 5, MIN, MAX}) {
            everyBook(x, slot, 0, -2);
            bothBooks(x, slot, -2);
        }
        for (int cart : new int[] {-1, 2, 7, MIN, MAX}) {
            everyBook(x, 0, cart, -2);
        }
        TOLD.says("P49", "-6: it has nothing");
        for (int slot = 1; slot < 4; slot++) {
            everyBook(x, slot, 0, -6);
            everyBook(x, slot, 1, -6);
            everyBook(x, slot, 2, -2);
            everyBook(x, slot, -1, -2);
            bothBooks(x, slot, -6);
        }
        SagMemory none = new SagMemory();
        everyBook(none, 0, 0, -2);
        bothBooks(none, 0, -2);
        none.row(3, 0, 0);
        everyBook(none, 3, 0, -2);
        bothBooks(none, 3, -2);
    }

    private static void liarsEdges() {
        TOLD.says("P52", "CARTS of which another load fits such a row, all others as told, if all as told does not (0, if it does),"
            + " as bits. -2, -6 likewise");
        SagMemory x = Told.of(valley(0, 5, 3) + WIDE + Told.carts(0, 9, 9, 9, 9, 9, 9, 9));
        Told.fill(x, 0, 1, 0, 6, 9);
        TOLD.due("as told", x.liars(0), 0);
        // 10 by any one of them: it is 10 and half of 9, but for the last.
        Told.fill(x, 0, 1, 0, 6, 10);
        TOLD.due("10: the last", x.liars(0), 64);
        // 10 and half of 9 by any but the last; 14 by the last.
        Told.fill(x, 0, 1, 0, 6, 14);
        TOLD.due("14: all", x.liars(0), 127);
        Told.fill(x, 0, 1, 0, 6, 8);
        TOLD.due("8: none", x.liars(0), 0);
        Told.fill(x, 0, 1, 0, 6, 100);
        // 96 and half of 9.
        TOLD.due("100: all but the last", x.liars(0), 63);
        Told.fill(x, 0, 1, 0, 6, 104);
        TOLD.due("104: none", x.liars(0), 0);
        TOLD.due("no CARTS, nothing said", filled(Told.V + WIDE).liars(0), 0);
    }

    private static void lawsEdges() {
        TOLD.says("P53", "LAWS (0 .. 3) by which it is as such a row tells, as bits. -2, -6 likewise");
        SagMemory x = line(0, 40, 19);
        long[] sags = {49, 0, 40, 0};
        int[] laws = {1, 10, 4, 10};
        for (int law = 0; law < 4; law++) {
            Told.fill(x, 0, 1, 0, 1, sags[law]);
            TOLD.due("SAG " + sags[law], x.laws(0), laws[law]);
        }
        Told.fill(x, 0, 1, 0, 1, 48);
        TOLD.due("none", x.laws(0), 0);
        Told.fill(x, 0, 1, 0, 0, 40);
        TOLD.due("all", x.laws(0), 15);
        x.row(0, 1, 0);
        TOLD.due("all by nothing", x.laws(0), 15);
        TOLD.due("the LAW told stays", x.count(0), 0);
    }

    private static void byEdges() {
        TOLD.says("P54", "SAG of all BRIDGES at the end by a LAW in place of the one told. -2: there is none such (0 .."
            + " 3), no VALLEY");
        for (int told = 0; told < 4; told++) {
            SagMemory x = line(told, 40, 19);
            TOLD.each("by", x::by, 49, 0, 40, 0, -2);
            TOLD.same("by", x::by, -2, -1, 4, MIN, MAX);
        }
        TOLD.each("no CARTS", Told.of(Told.V + WIDE)::by, 0, 0, 0, 0, -2);
        for (int law = -1; law <= 4; law++) {
            int asked = law;
            ofNoValley(y -> y.by(asked));
        }
    }

    private static void lawEdges() {
        TOLD.says("P55", "The LAW by which it is least, the least of several. -2: there is no VALLEY");
        for (int told = 0; told < 4; told++) {
            TOLD.due("1 and 3", line(told, 40, 19).law(), 1);
            TOLD.due("all", line(told, 40).law(), 0);
            TOLD.due("1 alone", line(told, 40, 18).law(), 1);
            TOLD.due("2", line(told, 40, 20).law(), 2);
            // By 3: 97, 40, then 67 alone behind 97; 17 wipes out 67, and 35 wipes out 97.
            TOLD.due("3 alone", line(told, 97, 40, 67, 17, 35).law(), 3);
        }
        TOLD.due("no CARTS", Told.of(Told.V).law(), 0);
        ofNoValley(SagMemory::law);
    }

    // ---- terms VII and VIII ----

    private static void withoutCart() {
        TOLD.says("VII", "Without a CART the others come at their turns");
        // FROST at turn 2 stays ahead of CART 2, whether CART 1 comes or not.
        SagMemory x = Told.of(valley(0, 5, 3) + WIDE + Told.carts(0, 20, 1, 2) + "frost at 2;");
        TOLD.row("now, spared", new long[] {x.all(2), x.spared(0), x.spared(1), x.spared(2)}, 16, 14, 0, 1);
        // That of its own turn comes without it.
        SagMemory y = Told.of(valley(0, 5, 3) + WIDE + Told.carts(0, 20, 1, 1) + "frost at 1;");
        TOLD.row("now, spared", new long[] {y.all(2), y.spared(0), y.spared(1), y.spared(2)}, 15, 14, 0, 0);
    }

    private static void shares(SagMemory x, long... wanted) {
        long[] got = new long[wanted.length];
        for (int i = 0; i < got.length; i++) {
            got[i] = x.share(i / 2, i % 2);
        }
        TOLD.row("share", got, wanted);
    }

    private static void shareEdges() {
        TOLD.says("VII", "(below 0, too); each order is as likely: the mean");
        shares(line(0, 9), 9, 1);
        shares(line(0, 9, 9), 9, 2, 9, 2);
        // 40 of itself alone, - 19 by not letting 19 be; 19 alone, and - 40.
        shares(line(1, 40, 19), 21, 2, -21, 2);
        shares(line(0, 9, 9, 9, 9, 9, 9, 9), 9, 7, 9, 7, 9, 7, 9, 7, 9, 7, 9, 7, 9, 7);
        SagMemory x = line(0, 9, 8);
        x.send(1, -1);
        shares(x, 9, 1, 0, 1);
        // On two BRIDGES each bears its own.
        SagMemory y = Told.of(valley(1, 5, 3) + WIDE + WIDE + Told.carts(0, 40) + Told.carts(1, 6));
        shares(y, 40, 1, 6, 1);
        TOLD.says("P56", "what a CART bears of SAG of all BRIDGES at the end, above (what 0), below (1)");
        SagMemory cold = Told.of(valley(0, 5, 3) + WIDE + Told.carts(0, 10, 4) + "frost at 1;");
        // 10 alone is 5; 4 alone 4; both 5 + 2 = 7.
        shares(cold, 4, 1, 3, 1);
    }

    private static void shareRefused() {
        TOLD.says("P56", "-2: there are none such");
        SagMemory x = line(0, 9, 9);
        TOLD.same("share(c, 0)", c -> x.share(c, 0), -2, -1, 2, 7, MIN, MAX);
        TOLD.same("share(0, what)", what -> x.share(0, what), -2, -1, 2, 3, MIN, MAX);
        TOLD.due("share(2, 2)", x.share(2, 2), -2);
        TOLD.due("share(0, 0) of no CARTS", Told.of(Told.V + WIDE).share(0, 0), -2);
        ofNoValley(y -> y.share(0, 0));
    }

    private static void gameLosses() {
        TOLD.says("VIII", "It LOSES what it pays, and 9, if it goes over none");
        // Halted by 1 it loses 9: less than 10, as much as 9, more than 8.
        int[][] cases = {{10, 11}, {9, 0}, {8, 0}};
        int[] rests = {1, 4, 1};
        for (int i = 0; i < cases.length; i++) {
            // Two that do not meet: the second of them is behind FROST that wipes out all.
            SagMemory x = Told.of(valley(0, 50, 3) + WIDE + WIDE + Told.carts(0, cases[i][0], cases[i][0])
                + "ward 1 over 0 to halt;frost at 1;");
            TOLD.row("rests of " + cases[i][0], new long[] {x.rest(0, 1), x.rests(0, 1)}, cases[i][1], rests[i]);
        }
        // One that finds it broken loses 9, too.
        SagMemory broken = Told.of(valley(0, 5, 3) + "bridge holds 1 toll 9;bridge holds 300 toll 1;" + Told.carts(0, 2)
            + Told.carts(1, 10));
        // The first: 18 by 0, 2 by 1. The second: by 0 90 or 9 if it is broken; by 1 10 or 8.
        TOLD.row("rests", new long[] {broken.rests(0, 1), broken.rest(0, 1)}, 1, 11);
    }

    private static void gameEdges() {
        TOLD.says("VIII", "REST: neither LOSES less by another BRIDGE alone");
        String free = "bridge holds 300 toll 0;";
        SagMemory all = Told.of(valley(0, 5, 3) + free + free + free + Told.carts(0, 9, 9));
        TOLD.row("all nine", new long[] {all.rests(0, 1), all.rest(0, 1), all.rests(1, 0), all.rest(1, 0)}, 9, 0, 9, 0);
        SagMemory one = line(0, 9, 8);
        TOLD.row("one", new long[] {one.rests(0, 1), one.rest(0, 1), one.rests(1, 0), one.rest(1, 0)}, 1, 0, 1, 0);
        TOLD.says("P58", "The first such pair (10 times the first one's and the other one's). NONE: none; -2 likewise");
        SagMemory last = Told.of(valley(0, 5, 3) + "bridge holds 300 toll 9;bridge holds 300 toll 9;" + free + Told.carts(0, 9, 9));
        // By 2 it is free; behind the other one it is free anywhere.
        TOLD.row("by 2 each", new long[] {last.rests(0, 1), last.rest(0, 1)}, 1, 22);
        SagMemory two = Told.of(valley(0, 5, 3) + "bridge holds 300 toll 9;" + free + "bridge holds 300 toll 2;"
            + Told.carts(0, 9, 9) + "ward 1 over 8 to halt;");
        // By 1 it is halted: 9. By 2 it pays 18, by 0 81; behind the other one it pays nothing.
        TOLD.row("first and other", new long[] {two.rests(0, 1), two.rest(0, 1), two.rest(1, 0)}, 1, 11, 11);
        SagMemory apart = Told.of(valley(0, 5, 3) + WIDE + WIDE + Told.carts(0, 20) + Told.carts(0, 10)
            + "ward 1 over 15 to halt;");
        TOLD.row("first and other", new long[] {apart.rest(0, 1), apart.rest(1, 0)}, 10, 1);
    }

    private static void gameInPlace() {
        TOLD.says("VIII", "Each of two CARTS comes by any BRIDGE in place of its own");
        String text = valley(0, 5, 3) + "bridge holds 300 toll 9;" + WIDE + Told.carts(0, 20, 10, 30);
        // By 1 it is cheaper for both, wherever they are told or sent; 30 comes behind them, sent or not.
        SagMemory x = Told.of(text);
        TOLD.row("as told", new long[] {x.rests(0, 1), x.rest(0, 1)}, 1, 11);
        x.send(0, -1);
        x.send(1, -1);
        TOLD.row("both halted by acts", new long[] {x.rests(0, 1), x.rest(0, 1), x.goes(0), x.goes(1)}, 1, 11, -1, -1);
        // The other CARTS come as by acts: behind 30 less is paid, wherever it went.
        SagMemory y = Told.of(valley(0, 5, 3) + WIDE + WIDE + Told.carts(0, 30, 20, 10));
        TOLD.row("30 by 0", new long[] {y.rest(1, 2), y.rests(1, 2)}, 0, 1);
        y.send(0, 1);
        TOLD.row("30 by 1", new long[] {y.rest(1, 2), y.rests(1, 2)}, 11, 1);
        y.send(0, -1);
        TOLD.row("30 halted", new long[] {y.rest(1, 2), y.rests(1, 2)}, 0, 2);
    }

    private static void gameRefused() {
        TOLD.says("P57", "pairs of BRIDGES of two CARTS at REST: how many. -2: there are none such, one twice");
        SagMemory x = Told.of(valley(0, 5, 3) + WIDE + Told.carts(0, 1, 2, 3, 4, 5, 6, 7));
        int[] numbers = {MIN, -1, 0, 1, 5, 6, 7, 8, MAX};
        for (int cart : numbers) {
            for (int other : numbers) {
                boolean such = cart >= 0 && cart < 7 && other >= 0 && other < 7 && cart != other;
                TOLD.due("rests(" + cart + ", " + other + ")", x.rests(cart, other), such ? 1 : -2);
                TOLD.due("rest(" + cart + ", " + other + ")", x.rest(cart, other), such ? 0 : -2);
            }
        }
        SagMemory one = line(0, 9);
        TOLD.row("one twice", new long[] {one.rests(0, 0), one.rest(0, 0), one.rests(0, 1), one.rest(1, 0)}, -2, -2, -2, -2);
        ofNoValley(y -> y.rests(0, 1));
        ofNoValley(y -> y.rest(0, 1));
    }

    // ---- term IX, promises 59 and 60 ----

    private static void likely(SagMemory x, int bridge, long... wanted) {
        TOLD.row("chance and mean of " + bridge, new long[] {x.chance(bridge, 0), x.chance(bridge, 1), x.mean(bridge, 0),
            x.mean(bridge, 1)}, wanted);
    }

    private static void chanceEdges() {
        TOLD.says("IX", "CHANCE: ahead of each CART there is FROST with odds in ten, by itself");
        String rest = "bridge holds 24 toll 1;" + Told.carts(0, 20, 10);
        // 25 without FROST ahead of the second, 20 with it.
        likely(Told.of(valley(0, 5, 0) + rest), 0, 1, 1, 25, 1);
        likely(Told.of(valley(0, 5, 1) + rest), 0, 9, 10, 49, 2);
        likely(Told.of(valley(0, 5, 5) + rest), 0, 1, 2, 45, 2);
        likely(Told.of(valley(0, 5, 9) + rest), 0, 1, 10, 41, 2);
        likely(Told.of(valley(0, 5, 10) + rest), 0, 0, 1, 20, 1);
        // Two, each by itself: 30 + 10 + 3 is 43; one of two FROSTS makes it less.
        SagMemory two = Told.of(valley(0, 1, 3) + "bridge holds 42 toll 1;" + Told.carts(0, 30, 20, 10));
        TOLD.row("none of two", new long[] {two.chance(0, 0), two.chance(0, 1)}, 49, 100);
    }

    private static void chanceInPlace() {
        TOLD.says("IX", "in place of FROSTS told, of acts");
        String rest = "bridge holds 24 toll 1;" + Told.carts(0, 20, 10);
        SagMemory x = Told.of(valley(0, 5, 0) + rest + "frost at 1;");
        TOLD.due("now it holds", x.breaks(0), -1);
        likely(x, 0, 1, 1, 25, 1);
        x.freeze(1, 1);
        likely(x, 0, 1, 1, 25, 1);
        SagMemory y = Told.of(valley(0, 5, 10) + rest);
        y.freeze(1, 0);
        TOLD.due("now it breaks", y.breaks(0), 1);
        likely(y, 0, 0, 1, 20, 1);
    }

    private static void lowestTerms() {
        TOLD.says("IX", "FRACTIONS are told in lowest terms (0 / 1)");
        likely(Told.of(Told.V + WIDE), 0, 0, 1, 0, 1);
        likely(Told.of(valley(0, 5, 3) + WIDE + WIDE + Told.carts(0, 9)), 1, 0, 1, 0, 1);
        SagMemory halted = line(0, 9);
        halted.send(0, -1);
        TOLD.row("share of one halted", new long[] {halted.share(0, 0), halted.share(0, 1)}, 0, 1);
        // It breaks if there is no FROST ahead of any of six: 7 to the 6th in a million.
        SagMemory x = Told.of(valley(0, 1, 3) + "bridge holds 135 toll 1;" + Told.carts(0, 70, 60, 50, 40, 30, 20, 10));
        TOLD.row("no FROST", new long[] {x.chance(0, 0), x.chance(0, 1)}, 117649, 1000000);
        SagMemory y = Told.of(valley(0, 1, 4) + "bridge holds 135 toll 1;" + Told.carts(0, 70, 60, 50, 40, 30, 20, 10));
        TOLD.row("no FROST", new long[] {y.chance(0, 0), y.chance(0, 1)}, 729, 15625);
    }

    private static void meanEdges() {
        TOLD.says("P60", "The mean SAG of a BRIDGE at the end, above, below. -2 likewise");
        String rest = WIDE + Told.carts(0, 99, 98, 97, 96, 95, 94, 93);
        TOLD.row("seven", new long[] {Told.of(valley(0, 50, 0) + rest).mean(0, 0), Told.of(valley(0, 50, 0) + rest).mean(0, 1)},
            251, 1);
        // FROST ahead of each: 93 alone is left.
        TOLD.row("seven", new long[] {Told.of(valley(0, 50, 10) + rest).mean(0, 0), Told.of(valley(0, 50, 10) + rest).mean(0, 1)},
            93, 1);
        SagMemory x = Told.of(valley(0, 1, 1) + WIDE + Told.carts(0, 9, 1));
        TOLD.row("one in ten", new long[] {x.mean(0, 0), x.mean(0, 1)}, 89, 10);
    }

    private static void chanceRefused() {
        TOLD.says("P59", "that a BRIDGE BREAKS, above (what 0), below (1). -2: there are none such");
        SagMemory x = Told.of(valley(0, 5, 3) + WIDE + WIDE + Told.carts(0, 9));
        TOLD.same("chance(b, 0)", b -> x.chance(b, 0), -2, -1, 2, 3, MIN, MAX);
        TOLD.same("chance(0, what)", what -> x.chance(0, what), -2, -1, 2, 3, MIN, MAX);
        TOLD.same("mean(b, 0)", b -> x.mean(b, 0), -2, -1, 2, 3, MIN, MAX);
        TOLD.same("mean(0, what)", what -> x.mean(0, what), -2, -1, 2, 3, MIN, MAX);
        TOLD.row("both", new long[] {x.chance(2, 2), x.mean(2, 2)}, -2, -2);
        TOLD.row("no BRIDGES", new long[] {Told.of(Told.V).chance(0, 0), Told.of(Told.V).mean(0, 0)}, -2, -2);
        ofNoValley(y -> y.chance(0, 0));
        ofNoValley(y -> y.mean(0, 0));
    }
}
