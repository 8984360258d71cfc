/** Promises 33 to 60: orders, routes, what is told back, lies, laws, shares, the game, chance; by hand. */
public final class SearchTest {
    private static final Told TOLD = new Told("SearchTest");
    private static final String WIDE = "bridge holds 300 toll 1;";
    private static final String TWO = "cart 20 by 0;cart 10 by 0;";

    public static void main(String[] args) {
        orders();
        ordersWithFrost();
        ordersOfBreaking();
        ordersByActs();
        routes();
        routesByActs();
        spared();
        forget();
        sets();
        setsOfOthers();
        setsWithoutAny();
        loads();
        booksRefused();
        liars();
        laws();
        share();
        game();
        gameRefused();
        chance();
        noCarts();
        TOLD.close();
    }

    private static String valley(int law, int frost, int odds) {
        return "valley law " + law + " frost " + frost + " odds " + odds + ";";
    }

    private static void order(SagMemory x, int... wanted) {
        for (int i = 0; i < wanted.length; i++) {
            TOLD.due("order(" + i + ")", x.order(i), wanted[i]);
        }
        TOLD.due("order beyond", x.order(wanted.length), -2);
        TOLD.due("order(-1)", x.order(-1), -2);
    }

    private static void orders() {
        SagMemory x = Told.of(Told.V + WIDE + "cart 30 by 0;cart 10 by 0;cart 20 by 0;");
        // The heaviest last leaves it alone, however the others come.
        TOLD.due("least()", x.least(), 30);
        order(x, 1, 2, 0);
        TOLD.due("orders()", x.orders(), 2);
        TOLD.due("across()", x.across(), 3);
        SagMemory y = Told.of(Told.V + WIDE
            + "cart 9 by 0;cart 9 by 0;cart 9 by 0;cart 9 by 0;cart 9 by 0;cart 9 by 0;cart 9 by 0;");
        TOLD.due("least() of seven alike", y.least(), 9);
        order(y, 0, 1, 2, 3, 4, 5, 6);
        TOLD.due("orders() of seven alike", y.orders(), 5040);
        TOLD.due("across() of seven", y.across(), 7);
    }

    private static void ordersWithFrost() {
        SagMemory x = Told.of(valley(0, 20, 3) + WIDE + "cart 10 by 0;cart 30 by 0;frost at 1;");
        // FROST stays at turn 1, whoever comes: 30, then 10, then 10 alone.
        TOLD.due("least()", x.least(), 10);
        order(x, 1, 0);
        TOLD.due("orders()", x.orders(), 1);
        x.freeze(1, 0);
        TOLD.due("least() without", x.least(), 30);
        order(x, 0, 1);
        x.undo();
        TOLD.due("least() again", x.least(), 10);
    }

    private static void ordersOfBreaking() {
        SagMemory x = Told.of(Told.V + "bridge holds 25 toll 1;cart 30 by 0;cart 10 by 0;");
        TOLD.due("least()", x.least(), 30);
        TOLD.due("orders()", x.orders(), 2);
        order(x, 0, 1);
        TOLD.due("across()", x.across(), 2);
        TOLD.due("waits()", x.waits(), 2);
        x.rate(0, 30);
        // 30 holds, 30 and a half of 10 do not: now it matters.
        TOLD.due("least()", x.least(), 30);
        TOLD.due("orders()", x.orders(), 1);
        order(x, 1, 0);
        TOLD.due("across()", x.across(), 2);
    }

    private static void ordersByActs() {
        SagMemory x = Told.of(Told.V + WIDE + WIDE + "cart 20 by 0;cart 10 by 0;");
        TOLD.due("least()", x.least(), 20);
        order(x, 1, 0);
        x.send(1, 1);
        TOLD.due("least() on two", x.least(), 30);
        TOLD.due("orders()", x.orders(), 2);
        x.send(0, -1);
        TOLD.due("least() with one halted", x.least(), 10);
        TOLD.due("orders()", x.orders(), 2);
        TOLD.due("across()", x.across(), 1);
    }

    private static void routes() {
        SagMemory x = Told.of(Told.V + WIDE + WIDE + TWO);
        TOLD.due("routes()", x.routes(), 25);
        TOLD.due("route(0)", x.route(0), 0);
        TOLD.due("route(1)", x.route(1), 0);
        TOLD.due("route(2)", x.route(2), -2);
        TOLD.due("route(-1)", x.route(-1), -2);
        TOLD.due("safe()", x.safe(), 2);
        SagMemory y = Told.of(Told.V + WIDE + WIDE + TWO + "ward 1 over 5 to halt;");
        TOLD.due("routes() to a halt", y.routes(), 0);
        TOLD.due("route(0)", y.route(0), 1);
        TOLD.due("route(1)", y.route(1), 1);
        TOLD.due("safe()", y.safe(), 2);
        SagMemory z = Told.of(Told.V + "bridge holds 9 toll 1;bridge holds 9 toll 1;cart 10 by 0;cart 5 by 0;cart 4 by 0;");
        // 10 breaks either; the others come after it, by the other one, or not at all.
        TOLD.due("waits()", z.waits(), 6);
        TOLD.due("routes()", z.routes(), 10);
        TOLD.due("route(0)", z.route(0), 0);
        TOLD.due("route(1)", z.route(1), 0);
        TOLD.due("route(2)", z.route(2), 0);
        TOLD.due("safe()", z.safe(), 3);
    }

    private static void routesByActs() {
        SagMemory x = Told.of(Told.V + WIDE + WIDE + TWO + "frost at 1;");
        x.send(0, -1);
        x.send(1, -1);
        TOLD.due("all(1)", x.all(1), 0);
        TOLD.due("routes() of those halted, too", x.routes(), 20);
        TOLD.due("safe()", x.safe(), 2);
        x.freeze(1, 0);
        TOLD.due("routes() without FROST", x.routes(), 25);
    }

    private static void spared() {
        SagMemory x = Told.of(Told.V + WIDE + TWO);
        TOLD.due("spared(0)", x.spared(0), 15);
        TOLD.due("spared(1)", x.spared(1), 5);
        TOLD.due("spared(2)", x.spared(2), -1000);
        TOLD.due("spared(-1)", x.spared(-1), -1000);
        TOLD.due("worst()", x.worst(), 0);
        SagMemory y = Told.of(valley(1, 5, 3) + WIDE + "cart 40 by 0;cart 15 by 0;");
        TOLD.due("spared(0) below 0", y.spared(0), -15);
        TOLD.due("spared(1) below 0", y.spared(1), -40);
        TOLD.due("worst() of none", y.worst(), -1);
        // The FROST at its turn comes without the CART, too.
        SagMemory z = Told.of(Told.V + WIDE + "cart 20 by 0;cart 30 by 0;frost at 1;");
        TOLD.due("spared(1)", z.spared(1), 15);
        TOLD.due("spared(0)", z.spared(0), 0);
        TOLD.due("worst()", z.worst(), 1);
        SagMemory w = Told.of(Told.V + WIDE + WIDE + "cart 7 by 0;cart 7 by 1;");
        TOLD.due("worst() the first of several", w.worst(), 0);
        w.send(0, -1);
        TOLD.due("spared(0) halted", w.spared(0), 0);
        TOLD.due("worst()", w.worst(), 1);
    }

    private static void forget() {
        SagMemory x = Told.of(Told.V + WIDE + "cart 20 by 0;cart 10 by 0;cart 30 by 0;cart 8 by 0;");
        // 30, 8 at the end: only FROST ahead of the last makes it less.
        TOLD.due("forget()", x.forget(), 3);
        x.freeze(3, 1);
        TOLD.due("forget() if it is there", x.forget(), -1);
        SagMemory y = Told.of(Told.V + WIDE + "cart 40 by 0;cart 10 by 0;cart 9 by 0;");
        // 40 + 5 + 3; ahead of 1: 35 + 5 + 3, ahead of 2: 35 and 5 are wiped out by 9: 35 + 4.
        TOLD.due("forget()", y.forget(), 2);
        SagMemory z = Told.of(Told.V + WIDE + "cart 40 by 0;");
        TOLD.due("forget() of none", z.forget(), -1);
        SagMemory w = Told.of(Told.V + WIDE + WIDE + "cart 40 by 0;cart 1 by 1;cart 1 by 1;");
        TOLD.due("forget() the first of several", w.forget(), 1);
    }

    private static void back(SagMemory x, int bridge, int... wanted) {
        TOLD.due("sets", x.sets(0, bridge), wanted[0]);
        TOLD.due("surely", x.surely(0, bridge), wanted[1]);
        TOLD.due("never", x.never(0, bridge), wanted[2]);
        TOLD.due("fewest", x.fewest(0, bridge), wanted[3]);
        TOLD.due("ask", x.ask(0, bridge), wanted[4]);
        TOLD.due("leaves", x.leaves(0, bridge), wanted[5]);
    }

    private static void sets() {
        SagMemory x = Told.of(Told.V + "bridge holds 1 toll 1;" + TWO
            + "cart 30 by 0;cart 5 by 0;ward 0 over 1 to halt;frost at 2;");
        x.send(0, -1);
        Told.fill(x, 0, 0, 30, 5);
        back(x, 0, 4, 12, 0, 12, 0, 2);
        Told.fill(x, 0, 3, 20, 10);
        back(x, 0, 1, 3, 12, 3, -1, 1);
        Told.fill(x, 0, 1, 20, 10, 5);
        back(x, 0, 1, 11, 4, 11, -1, 1);
        Told.fill(x, 0, 2);
        back(x, 0, 1, 0, 15, 0, -1, 1);
        Told.fill(x, 0, 0, 7);
        back(x, 0, 0, -1, -1, -1, -1, 0);
        Told.fill(x, 0, 0, 5, 30);
        back(x, 0, 0, -1, -1, -1, -1, 0);
        Told.fill(x, 0, 0, 30, 5, 0);
        back(x, 0, 0, -1, -1, -1, -1, 0);
        Told.fill(x, 0, 0, new long[60]);
        back(x, 0, 0, -1, -1, -1, -1, 0);
        // 286 in one byte is 30.
        Told.fill(x, 0, 0, 286);
        back(x, 0, 4, 4, 8, 4, 0, 2);
        Told.fill(x, 0, 1, 286);
        back(x, 0, 0, -1, -1, -1, -1, 0);
    }

    private static void setsOfOthers() {
        SagMemory x = Told.of(valley(1, 5, 3) + WIDE + WIDE
            + "cart 40 by 1;cart 30 by 0;cart 15 by 1;cart 8 by 1;cart 40 by 1;");
        x.send(1, 1);
        Told.fill(x, 0, 0, 40);
        // By LAW 1, of CARTS 0 (40), 2 (15), 3 (8), 4 (40): all with 4, and 0 alone.
        back(x, 1, 9, 0, 0, 1, 0, 5);
        // Nothing left: none, 0 and 2, 0 and 3.
        Told.fill(x, 0, 0);
        back(x, 1, 3, 0, 16, 0, 0, 2);
        back(x, 0, 1, 0, 2, 0, -1, 1);
    }

    private static void setsWithoutAny() {
        SagMemory x = Told.of(Told.V + WIDE + TWO);
        int[][] wrong = {{-1, 0}, {4, 0}, {0, -1}, {0, 1}, {0, 3}, {Integer.MAX_VALUE, 0}, {0, Integer.MIN_VALUE}};
        for (int[] pair : wrong) {
            everySet(x, pair[0], pair[1], -2);
        }
        everySet(x, 0, 0, -6);
        everySet(x, 3, 0, -6);
        everySet(new SagMemory(), 0, 0, -2);
        everySet(Told.of(Told.V), 0, 0, -2);
        SagMemory y = Told.of(Told.V + WIDE);
        y.row(0, 0, 0);
        back(y, 0, 1, 0, 0, 0, -1, 1);
    }

    private static void everySet(SagMemory x, int slot, int bridge, int wanted) {
        TOLD.due("sets", x.sets(slot, bridge), wanted);
        TOLD.due("surely", x.surely(slot, bridge), wanted);
        TOLD.due("never", x.never(slot, bridge), wanted);
        TOLD.due("fewest", x.fewest(slot, bridge), wanted);
        TOLD.due("ask", x.ask(slot, bridge), wanted);
        TOLD.due("leaves", x.leaves(slot, bridge), wanted);
    }

    private static void lies(SagMemory x, int slot, int cart, int... wanted) {
        TOLD.due("loads", x.loads(slot, cart), wanted[0]);
        TOLD.due("light", x.light(slot, cart), wanted[1]);
        TOLD.due("heavy", x.heavy(slot, cart), wanted[2]);
    }

    private static void loads() {
        SagMemory x = Told.of(Told.V + WIDE + TWO);
        Told.fill(x, 1, 1, 0, 1, 25);
        lies(x, 1, 0, 1, 20, 20);
        // 20 and a half of 10 or 11, or 25 alone.
        lies(x, 1, 1, 3, 10, 25);
        Told.fill(x, 1, 1, 0, 1, 300);
        lies(x, 1, 1, 0, -1, -1);
        x.row(1, 1, 0);
        lies(x, 1, 1, 99, 1, 99);
        Told.fill(x, 1, 0, 0, 0, 20, 0, 1, 25);
        lies(x, 1, 1, 3, 10, 25);
        Told.fill(x, 1, 0, 0, 0, 21, 0, 1, 25);
        lies(x, 1, 1, 0, -1, -1);
        lies(x, 1, 0, 0, -1, -1);
        // WARDS look at the other load; acts count.
        SagMemory y = Told.of(Told.V + WIDE + WIDE + TWO + "ward 0 over 50 to 1;");
        Told.fill(y, 2, 3, 1, 1, 0);
        lies(y, 2, 0, 50, 1, 50);
        y.send(0, 1);
        lies(y, 2, 0, 0, -1, -1);
    }

    private static void booksRefused() {
        SagMemory x = Told.of(Told.V + WIDE + TWO);
        refused(x, 0, 0, -6);
        refused(x, 3, 1, -6);
        refused(x, 4, 0, -2);
        refused(x, -1, 0, -2);
        long[][] wrong = {{1, 0, 0}, {-1, 0, 0}, {0, 2, 0}, {0, -1, 0}, {0, 0, -1}, {0, 0, 1000}, {0}, {0, 0}, {0, 0, 0, 0},
            {0, 0, 20, 0, 0}, {0, 0, 20, 0, 7, 20}, {4294967296L, 0, 20}, {0, 4294967296L, 20}};
        for (long[] row : wrong) {
            Told.fill(x, 0, 3, row);
            refused(x, 0, 0, -2);
        }
        Told.fill(x, 0, 3, 0, 0, 999);
        refused(x, 0, 0, 0);
        TOLD.due("loads of no such CART", x.loads(0, 2), -2);
        TOLD.due("light of no such CART", x.light(0, -1), -2);
        TOLD.due("heavy of no such CART", x.heavy(0, 7), -2);
        TOLD.due("-2 ahead of -6", x.loads(1, 2), -2);
        // 200 in one byte is below 0.
        Told.fill(x, 0, 0, 0, 0, 200);
        refused(x, 0, 0, -2);
        SagMemory y = new SagMemory();
        refused(y, 0, 0, -2);
        y.row(0, 0, 0);
        refused(y, 0, 0, -2);
    }

    private static void refused(SagMemory x, int slot, int cart, int wanted) {
        TOLD.due("loads", x.loads(slot, cart), wanted);
        TOLD.due("light", x.light(slot, cart), wanted == 0 ? -1 : wanted);
        TOLD.due("heavy", x.heavy(slot, cart), wanted == 0 ? -1 : wanted);
        TOLD.due("liars", x.liars(slot), wanted);
        TOLD.due("laws", x.laws(slot), wanted);
    }

    private static void liars() {
        SagMemory x = Told.of(Told.V + WIDE + TWO);
        Told.fill(x, 1, 1, 0, 1, 25);
        TOLD.due("liars: all as told", x.liars(1), 0);
        Told.fill(x, 1, 1, 0, 1, 24);
        TOLD.due("liars: either", x.liars(1), 3);
        Told.fill(x, 1, 1, 0, 0, 20, 0, 1, 24);
        TOLD.due("liars: the second", x.liars(1), 2);
        Told.fill(x, 1, 1, 0, 0, 7, 0, 1, 99);
        TOLD.due("liars: neither", x.liars(1), 0);
        x.row(1, 1, 0);
        TOLD.due("liars by nothing", x.liars(1), 0);
        x.send(1, -1);
        Told.fill(x, 1, 1, 0, 1, 24);
        TOLD.due("liars as by acts", x.liars(1), 1);
    }

    private static void laws() {
        SagMemory x = Told.of(Told.V + WIDE + TWO);
        Told.fill(x, 1, 1, 0, 1, 25);
        TOLD.due("laws", x.laws(1), 11);
        Told.fill(x, 1, 1, 0, 1, 20);
        TOLD.due("laws", x.laws(1), 4);
        Told.fill(x, 1, 1, 0, 1, 21);
        TOLD.due("laws", x.laws(1), 0);
        x.row(1, 1, 0);
        TOLD.due("laws", x.laws(1), 15);
        TOLD.due("by(0)", x.by(0), 25);
        TOLD.due("by(1)", x.by(1), 25);
        TOLD.due("by(2)", x.by(2), 20);
        TOLD.due("by(3)", x.by(3), 25);
        TOLD.due("by(4)", x.by(4), -2);
        TOLD.due("by(-1)", x.by(-1), -2);
        TOLD.due("law()", x.law(), 2);
        TOLD.due("count(0) as told", x.count(0), 0);
        SagMemory y = Told.of(valley(2, 5, 3) + WIDE + "cart 40 by 0;cart 15 by 0;");
        TOLD.due("by(0)", y.by(0), 47);
        TOLD.due("by(1)", y.by(1), 0);
        TOLD.due("by(2)", y.by(2), 40);
        TOLD.due("by(3)", y.by(3), 0);
        TOLD.due("law() the least of several", y.law(), 1);
        y.send(1, -1);
        TOLD.due("law() of all alike", y.law(), 0);
    }

    private static void bears(SagMemory x, int cart, int above, int below) {
        TOLD.due("share above", x.share(cart, 0), above);
        TOLD.due("share below", x.share(cart, 1), below);
    }

    private static void share() {
        SagMemory x = Told.of(Told.V + WIDE + TWO);
        bears(x, 0, 35, 2);
        bears(x, 1, 15, 2);
        TOLD.due("share(2, 0)", x.share(2, 0), -2);
        TOLD.due("share(-1, 0)", x.share(-1, 0), -2);
        TOLD.due("share(0, 2)", x.share(0, 2), -2);
        TOLD.due("share(0, -1)", x.share(0, -1), -2);
        SagMemory y = Told.of(valley(1, 5, 3) + WIDE + "cart 40 by 0;cart 15 by 0;");
        bears(y, 0, 25, 2);
        bears(y, 1, -25, 2);
        y.send(1, -1);
        bears(y, 0, 40, 1);
        bears(y, 1, 0, 1);
        SagMemory z = Told.of(Told.V + WIDE + "cart 10 by 0;cart 10 by 0;cart 10 by 0;");
        bears(z, 0, 10, 3);
        bears(z, 1, 10, 3);
        bears(z, 2, 10, 3);
    }

    private static void game() {
        SagMemory x = Told.of(Told.V + WIDE + WIDE + TWO);
        // The lighter one pays less behind the heavier one, on either.
        TOLD.due("rests(0, 1)", x.rests(0, 1), 2);
        TOLD.due("rest(0, 1)", x.rest(0, 1), 0);
        TOLD.due("rests(1, 0)", x.rests(1, 0), 2);
        SagMemory y = Told.of(Told.V + "bridge holds 300 toll 2;" + WIDE + TWO);
        TOLD.due("rests(0, 1)", y.rests(0, 1), 1);
        TOLD.due("rest(0, 1)", y.rest(0, 1), 11);
        // 9 for going over none is less than the toll.
        SagMemory z = Told.of(Told.V + WIDE + WIDE + TWO + "ward 1 over 5 to halt;");
        TOLD.due("rests(0, 1)", z.rests(0, 1), 1);
        TOLD.due("rest(0, 1)", z.rest(0, 1), 11);
        // The first goes where the halt is; behind none the second would pay 10 there.
        SagMemory w = Told.of(Told.V + WIDE + WIDE + TWO + "ward 1 over 15 to halt;");
        TOLD.due("rests(0, 1)", w.rests(0, 1), 2);
        TOLD.due("rest(0, 1)", w.rest(0, 1), 10);
        TOLD.due("rest(1, 0)", w.rest(1, 0), 1);
        w.send(0, -1);
        TOLD.due("rest(0, 1) of one halted", w.rest(0, 1), 10);
        SagMemory one = Told.of(Told.V + WIDE + TWO);
        TOLD.due("rests(0, 1) on one BRIDGE", one.rests(0, 1), 1);
        TOLD.due("rest(0, 1) on one BRIDGE", one.rest(0, 1), 0);
        SagMemory light = Told.of(Told.V + WIDE + WIDE + "cart 10 by 0;cart 12 by 0;");
        // The heavier one behind the lighter one pays but 2; the first one loses 10 by either.
        TOLD.due("rests(0, 1)", light.rests(0, 1), 2);
        TOLD.due("rest(0, 1)", light.rest(0, 1), 0);
        TOLD.due("rest(1, 0)", light.rest(1, 0), 0);
    }

    private static void gameRefused() {
        SagMemory x = Told.of(Told.V + WIDE + WIDE + TWO);
        int[][] wrong = {{0, 0}, {1, 1}, {-1, 0}, {0, -1}, {2, 0}, {0, 2}, {7, 8}, {-1, -1}};
        for (int[] pair : wrong) {
            TOLD.due("rests", x.rests(pair[0], pair[1]), -2);
            TOLD.due("rest", x.rest(pair[0], pair[1]), -2);
        }
    }

    private static void likely(SagMemory x, int bridge, long... wanted) {
        TOLD.due("chance above", x.chance(bridge, 0), wanted[0]);
        TOLD.due("chance below", x.chance(bridge, 1), wanted[1]);
        TOLD.due("mean above", x.mean(bridge, 0), wanted[2]);
        TOLD.due("mean below", x.mean(bridge, 1), wanted[3]);
    }

    private static void chance() {
        String rest = "bridge holds 24 toll 1;" + WIDE + TWO + "frost at 1;";
        SagMemory x = Told.of(Told.V + rest);
        // It breaks by 25 without FROST ahead of the second CART; with it, 20.
        likely(x, 0, 7, 10, 47, 2);
        likely(x, 1, 0, 1, 0, 1);
        x.freeze(1, 1);
        likely(x, 0, 7, 10, 47, 2);
        x.send(1, 1);
        likely(x, 0, 0, 1, 37, 2);
        likely(x, 1, 0, 1, 10, 1);
        likely(Told.of(valley(0, 5, 0) + rest), 0, 1, 1, 25, 1);
        likely(Told.of(valley(0, 5, 10) + rest), 0, 0, 1, 20, 1);
        int[][] wrong = {{-1, 0}, {2, 0}, {3, 1}, {0, 2}, {0, -1}};
        for (int[] pair : wrong) {
            TOLD.due("chance", x.chance(pair[0], pair[1]), -2);
            TOLD.due("mean", x.mean(pair[0], pair[1]), -2);
        }
        SagMemory y = Told.of("valley law 0 frost 1 odds 1;bridge holds 6 toll 1;cart 1 by 0;cart 1 by 0;cart 1 by 0;"
            + "cart 1 by 0;cart 1 by 0;cart 7 by 0;cart 1 by 0;");
        // Broken for sure by 7; then 1 in 10 makes it 6.
        likely(y, 0, 1, 1, 69, 10);
    }

    private static void noCarts() {
        SagMemory x = Told.of(Told.V + WIDE);
        TOLD.due("least()", x.least(), 0);
        TOLD.due("orders()", x.orders(), 1);
        TOLD.due("order(0)", x.order(0), -2);
        TOLD.due("across()", x.across(), 0);
        TOLD.due("routes()", x.routes(), 0);
        TOLD.due("route(0)", x.route(0), -2);
        TOLD.due("safe()", x.safe(), 0);
        TOLD.due("worst()", x.worst(), -1);
        TOLD.due("forget()", x.forget(), -1);
        TOLD.due("by(3)", x.by(3), 0);
        TOLD.due("law()", x.law(), 0);
        TOLD.due("drawn(5, 0)", x.drawn(5, 0), 0);
        TOLD.due("drawn(5, 1)", x.drawn(5, 1), 0);
        likely(x, 0, 0, 1, 0, 1);
        x.row(0, 0, 0);
        TOLD.due("laws(0)", x.laws(0), 15);
        TOLD.due("liars(0)", x.liars(0), 0);
        SagMemory y = Told.of(Told.V);
        TOLD.due("routes() without BRIDGES", y.routes(), 0);
        TOLD.due("orders() without BRIDGES", y.orders(), 1);
        TOLD.due("fails() without BRIDGES", y.fails(), -1);
    }
}
