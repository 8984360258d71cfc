/**
 * A valley of bridges that remember the heaviest carts.
 *
 * All rows are made by the constructors and used again: no call makes an object, so that
 * a long run of calls stays within one room.
 */
public final class SagMemory {
    public static final int NONE = -1;

    private static final int NO_SUCH = -2;
    private static final int BELOW_ZERO = -3;
    private static final int FAULTY = -4;
    private static final int NOT_NOW = -5;
    private static final int EMPTY = -6;
    private static final int BEYOND = -7;
    private static final int OTHER_WIDTH = -8;
    // Where an answer may be below 0 itself, this one says that there is none such.
    private static final int NO_SUCH_FAR = -1000;

    private static final int MOST_BRIDGES = 3;
    private static final int MOST_CARTS = 7;
    private static final int MOST_WARDS = 5;
    private static final int MOST_FROSTS = 4;
    private static final int MOST_BYTES = 700;
    private static final int MOST_ACTS = 30;
    private static final int MOST_NUMBERS = 60;
    private static final int SLOTS = 4;
    private static final int WIDTHS = 4;
    private static final int IMAGES = 3;
    private static final int LAWS = 4;
    private static final int LAST_TURN = 6;
    private static final int HEAVIEST = 99;
    private static final int MOST_HELD = 300;
    private static final int GREATEST_SAG = 999;
    private static final int GREATEST_SEED = 2000000000;
    private static final int MOST_WINTERS = 20;
    private static final int LOST_BY_WAITING = 9;
    // 7 CARTS in any order; 3 BRIDGES for each of 7 CARTS are fewer.
    private static final int MOST_TRIALS = 5040;
    // One more than there are CARTS: a load is tried behind the last turn, too.
    private static final int MOST_REMEMBERED = 8;

    private final Tape tape = new Tape();
    private final Valley told = new Valley();
    private final Acts acts = new Acts();
    private final Plan now = new Plan();
    private final Plan trial = new Plan();
    private final Story story = new Story(told, now);
    private final Story attempt = new Story(told, trial);
    private final Search orderSearch = new Search();
    private final Search routeSearch = new Search();
    private final Sets setSearch = new Sets();
    private final Memory probe = new Memory();
    private final int[] ownLosses = new int[MOST_BRIDGES * MOST_BRIDGES];
    private final int[] otherLosses = new int[MOST_BRIDGES * MOST_BRIDGES];
    private final Slot[] slots = new Slot[SLOTS];
    private final Image[] images = new Image[IMAGES];

    public SagMemory() {
        for (int i = 0; i < SLOTS; i++) {
            slots[i] = new Slot();
        }
        for (int i = 0; i < IMAGES; i++) {
            images[i] = new Image();
        }
    }

    // ---- the text ----

    public int feed(int a, int b, int c, int d, int e) {
        if (tape.length + 20 > MOST_BYTES) {
            return NONE;
        }
        tape.put(a);
        tape.put(b);
        tape.put(c);
        tape.put(d);
        tape.put(e);
        return tape.length;
    }

    public int end(int n) {
        if (n < 0 || n > tape.length) {
            return NONE;
        }
        tape.length = n;
        return n;
    }

    public int valley() {
        if (!tape.parse()) {
            return FAULTY;
        }
        told.take(tape.read);
        acts.done = 0;
        tape.length = 0;
        renew();
        return told.lines;
    }

    public int fault(int what) {
        if (what == 0) {
            return tape.fault;
        }
        return what == 1 ? tape.place : NONE;
    }

    // ---- what is told ----

    public int bridge(int bridge, int what) {
        if (!told.hasBridge(bridge) || what < 0 || what > 1) {
            return NO_SUCH;
        }
        return what == 0 ? told.holds[bridge] : told.tolls[bridge];
    }

    public int cart(int cart, int what) {
        if (!told.hasCart(cart) || what < 0 || what > 1) {
            return NO_SUCH;
        }
        return what == 0 ? told.loads[cart] : told.ways[cart];
    }

    public int ward(int ward, int what) {
        if (ward < 0 || ward >= told.wards || what < 0 || what > 2) {
            return NO_SUCH;
        }
        if (what == 0) {
            return told.wardBridges[ward];
        }
        return what == 1 ? told.wardOvers[ward] : told.wardTargets[ward];
    }

    // ---- what happens ----

    public int cold(int cart) {
        if (!told.hasCart(cart)) {
            return NO_SUCH;
        }
        return (now.cold >> cart) & 1;
    }

    public int goes(int cart) {
        return told.hasCart(cart) ? story.behind(cart).went : NO_SUCH;
    }

    public int comes(int cart) {
        return told.hasCart(cart) ? story.behind(cart).came : NO_SUCH;
    }

    public int over(int bridge) {
        if (!told.hasBridge(bridge)) {
            return NO_SUCH;
        }
        int bits = 0;
        for (int t = 0; t < told.carts; t++) {
            if (story.behind(t).went == bridge) {
                bits |= 1 << t;
            }
        }
        return bits;
    }

    public int waits() {
        if (noValley()) {
            return NO_SUCH;
        }
        return ((1 << told.carts) - 1) & ~story.atEnd().crossed;
    }

    public int deep(int bridge, int turn) {
        if (!hasBoth(bridge, turn)) {
            return NO_SUCH;
        }
        return story.behind(turn).memories[bridge].size;
    }

    public int load(int bridge, int turn, int k) {
        if (!hasBoth(bridge, turn)) {
            return NO_SUCH;
        }
        return story.behind(turn).memories[bridge].heaviest(k);
    }

    public int sag(int bridge, int turn) {
        if (!hasBoth(bridge, turn)) {
            return NO_SUCH;
        }
        return story.behind(turn).memories[bridge].depth();
    }

    public int all(int turn) {
        return told.hasCart(turn) ? story.behind(turn).together() : NO_SUCH;
    }

    public int deepest(int turn) {
        if (!told.hasCart(turn)) {
            return NO_SUCH;
        }
        State state = story.behind(turn);
        int best = NONE;
        int greatest = NONE;
        for (int b = 0; b < told.bridges; b++) {
            int depth = state.memories[b].depth();
            if (depth > greatest) {
                greatest = depth;
                best = b;
            }
        }
        return best;
    }

    public int gives(int cart) {
        return told.hasCart(cart) ? story.behind(cart).more : NO_SUCH_FAR;
    }

    public int creak(int cart) {
        return told.hasCart(cart) ? story.behind(cart).noise : NO_SUCH;
    }

    public int loudest() {
        if (noValley()) {
            return NO_SUCH;
        }
        int best = NONE;
        int greatest = 0;
        for (int t = 0; t < told.carts; t++) {
            int noise = story.behind(t).noise;
            if (noise > greatest) {
                greatest = noise;
                best = t;
            }
        }
        return best;
    }

    public int pays(int cart) {
        return told.hasCart(cart) ? story.behind(cart).paid : NO_SUCH;
    }

    public int tolls() {
        if (noValley()) {
            return NO_SUCH;
        }
        int sum = 0;
        for (int t = 0; t < told.carts; t++) {
            sum += story.behind(t).paid;
        }
        return sum;
    }

    public int wipes(int cart) {
        return told.hasCart(cart) ? story.behind(cart).wiped : NO_SUCH;
    }

    public int breaks(int bridge) {
        return told.hasBridge(bridge) ? firstBroken(1 << bridge) : NO_SUCH;
    }

    public int fails() {
        return noValley() ? NO_SUCH : firstBroken((1 << MOST_BRIDGES) - 1);
    }

    public int spare(int bridge) {
        if (!told.hasBridge(bridge)) {
            return NO_SUCH_FAR;
        }
        return told.holds[bridge] - story.atEnd().memories[bridge].depth();
    }

    public int kept(int bridge) {
        return told.hasBridge(bridge) ? story.atEnd().memories[bridge].cartBits() : NO_SUCH;
    }

    public int last(int bridge, int turn) {
        if (!hasBoth(bridge, turn)) {
            return NO_SUCH;
        }
        Memory memory = story.behind(turn).memories[bridge];
        return memory.heaviest(memory.size - 1);
    }

    public int broken(int turn) {
        return told.hasCart(turn) ? story.behind(turn).ruined : NO_SUCH;
    }

    public int free(int bridge, int turn) {
        if (!hasBoth(bridge, turn)) {
            return NO_SUCH;
        }
        Memory memory = story.behind(turn).memories[bridge];
        int depth = memory.depth();
        for (int tried = HEAVIEST; tried > 0; tried--) {
            if (depthWith(memory, tried) <= depth) {
                return tried;
            }
        }
        return 0;
    }

    public int most(int bridge, int turn) {
        if (!hasBoth(bridge, turn)) {
            return NO_SUCH;
        }
        State state = story.behind(turn);
        if (state.isBroken(bridge)) {
            return NONE;
        }
        for (int tried = 1; tried <= HEAVIEST; tried++) {
            if (depthWith(state.memories[bridge], tried) > told.holds[bridge]) {
                return tried;
            }
        }
        return NONE;
    }

    // ---- orders and routes ----

    public int least() {
        if (noValley()) {
            return NO_SUCH;
        }
        seekOrders();
        return orderSearch.lowest;
    }

    public int order(int i) {
        if (!told.hasCart(i)) {
            return NO_SUCH;
        }
        seekOrders();
        return orderSearch.first[i];
    }

    public int orders() {
        if (noValley()) {
            return NO_SUCH;
        }
        seekOrders();
        return orderSearch.found;
    }

    public int across() {
        if (noValley()) {
            return NO_SUCH;
        }
        seekOrders();
        return orderSearch.mostOver;
    }

    public int routes() {
        if (noValley()) {
            return NO_SUCH;
        }
        seekRoutes();
        return routeSearch.lowest;
    }

    public int route(int cart) {
        if (!told.hasCart(cart)) {
            return NO_SUCH;
        }
        seekRoutes();
        return routeSearch.first[cart];
    }

    public int safe() {
        if (noValley()) {
            return NO_SUCH;
        }
        seekRoutes();
        return routeSearch.mostOver;
    }

    public int spared(int cart) {
        if (!told.hasCart(cart)) {
            return NO_SUCH_FAR;
        }
        return story.atEnd().together() - sagWithout(cart);
    }

    public int worst() {
        if (noValley()) {
            return NO_SUCH;
        }
        int best = NONE;
        int lowest = story.atEnd().together();
        for (int c = 0; c < told.carts; c++) {
            int depth = sagWithout(c);
            if (depth < lowest) {
                lowest = depth;
                best = c;
            }
        }
        return best;
    }

    public int forget() {
        if (noValley()) {
            return NO_SUCH;
        }
        int best = NONE;
        int lowest = story.atEnd().together();
        for (int t = 0; t < told.carts; t++) {
            int depth = sagInCold(now.cold | 1 << t);
            if (depth < lowest) {
                lowest = depth;
                best = t;
            }
        }
        return best;
    }

    // ---- told back ----

    public int sets(int slot, int bridge) {
        int no = seekSets(slot, bridge);
        return no < 0 ? no : setSearch.found;
    }

    public int surely(int slot, int bridge) {
        int no = seekSets(slot, bridge);
        if (no < 0) {
            return no;
        }
        return setSearch.found == 0 ? NONE : setSearch.common;
    }

    public int never(int slot, int bridge) {
        int no = seekSets(slot, bridge);
        if (no < 0) {
            return no;
        }
        return setSearch.found == 0 ? NONE : told.cartsBy(bridge) & ~setSearch.seen;
    }

    public int fewest(int slot, int bridge) {
        int no = seekSets(slot, bridge);
        return no < 0 ? no : setSearch.smallest;
    }

    public int ask(int slot, int bridge) {
        int no = seekSets(slot, bridge);
        return no < 0 ? no : setSearch.question();
    }

    public int leaves(int slot, int bridge) {
        int no = seekSets(slot, bridge);
        return no < 0 ? no : setSearch.leftBy(setSearch.question());
    }

    // ---- lies and laws ----

    public int loads(int slot, int cart) {
        int no = lookAtBookFor(slot, cart);
        if (no < 0) {
            return no;
        }
        int fitting = 0;
        for (int tried = 1; tried <= HEAVIEST; tried++) {
            if (fitsWithLoad(slot, cart, tried)) {
                fitting++;
            }
        }
        return fitting;
    }

    public int light(int slot, int cart) {
        int no = lookAtBookFor(slot, cart);
        if (no < 0) {
            return no;
        }
        for (int tried = 1; tried <= HEAVIEST; tried++) {
            if (fitsWithLoad(slot, cart, tried)) {
                return tried;
            }
        }
        return NONE;
    }

    public int heavy(int slot, int cart) {
        int no = lookAtBookFor(slot, cart);
        if (no < 0) {
            return no;
        }
        for (int tried = HEAVIEST; tried > 0; tried--) {
            if (fitsWithLoad(slot, cart, tried)) {
                return tried;
            }
        }
        return NONE;
    }

    public int liars(int slot) {
        int no = lookAtBook(slot);
        if (no < 0) {
            return no;
        }
        if (slots[slot].tellsOf(story)) {
            return 0;
        }
        int bits = 0;
        for (int c = 0; c < told.carts; c++) {
            for (int tried = 1; tried <= HEAVIEST; tried++) {
                // The load as told needs no leaving out: it does not fit here.
                if (fitsWithLoad(slot, c, tried)) {
                    bits |= 1 << c;
                    break;
                }
            }
        }
        return bits;
    }

    public int laws(int slot) {
        int no = lookAtBook(slot);
        if (no < 0) {
            return no;
        }
        int bits = 0;
        for (int law = 0; law < LAWS; law++) {
            tryLaw(law);
            if (slots[slot].tellsOf(attempt)) {
                bits |= 1 << law;
            }
        }
        return bits;
    }

    public int by(int law) {
        if (noValley() || law < 0 || law >= LAWS) {
            return NO_SUCH;
        }
        tryLaw(law);
        return attempt.atEnd().together();
    }

    public int law() {
        if (noValley()) {
            return NO_SUCH;
        }
        int best = 0;
        int lowest = 0;
        for (int law = 0; law < LAWS; law++) {
            tryLaw(law);
            int depth = attempt.atEnd().together();
            if (law == 0 || depth < lowest) {
                lowest = depth;
                best = law;
            }
        }
        return best;
    }

    // ---- shares, the game, chance ----

    public int share(int cart, int what) {
        if (!told.hasCart(cart) || what < 0 || what > 1) {
            return NO_SUCH;
        }
        long sum = 0;
        for (int set = 0; set < 1 << told.carts; set++) {
            if ((set >> cart & 1) == 0) {
                int size = Integer.bitCount(set);
                long rows = factorial(size) * factorial(told.carts - 1 - size);
                sum += rows * (sagOfSet(set | 1 << cart) - sagOfSet(set));
            }
        }
        return (int) lowestTerm(sum, factorial(told.carts), what);
    }

    public int rests(int cart, int other) {
        if (!told.hasCart(cart) || !told.hasCart(other) || cart == other) {
            return NO_SUCH;
        }
        playAll(cart, other);
        int found = 0;
        for (int a = 0; a < told.bridges; a++) {
            for (int b = 0; b < told.bridges; b++) {
                if (isAtRest(a, b)) {
                    found++;
                }
            }
        }
        return found;
    }

    public int rest(int cart, int other) {
        if (!told.hasCart(cart) || !told.hasCart(other) || cart == other) {
            return NO_SUCH;
        }
        playAll(cart, other);
        for (int a = 0; a < told.bridges; a++) {
            for (int b = 0; b < told.bridges; b++) {
                if (isAtRest(a, b)) {
                    return 10 * a + b;
                }
            }
        }
        return NONE;
    }

    public int chance(int bridge, int what) {
        if (!told.hasBridge(bridge) || what < 0 || what > 1) {
            return NO_SUCH;
        }
        long sum = 0;
        for (int winter = 0; winter < 1 << told.carts; winter++) {
            long ways = waysTo(winter);
            if (ways > 0 && breaksInCold(winter, bridge)) {
                sum += ways;
            }
        }
        return (int) lowestTerm(sum, power(10, told.carts), what);
    }

    public long mean(int bridge, int what) {
        if (!told.hasBridge(bridge) || what < 0 || what > 1) {
            return NO_SUCH;
        }
        long sum = 0;
        for (int winter = 0; winter < 1 << told.carts; winter++) {
            long ways = waysTo(winter);
            if (ways > 0) {
                tryCold(winter);
                sum += ways * attempt.atEnd().memories[bridge].depth();
            }
        }
        return lowestTerm(sum, power(10, told.carts), what);
    }

    // ---- acts ----

    public int send(int cart, int bridge) {
        if (!told.hasCart(cart) || bridge != NONE && !told.hasBridge(bridge)) {
            return NO_SUCH;
        }
        int was = now.ways[cart];
        if (!acts.add(Acts.SENT, cart, bridge)) {
            return NOT_NOW;
        }
        renew();
        return was;
    }

    public int freeze(int cart, int on) {
        if (!told.hasCart(cart) || on < 0 || on > 1) {
            return NO_SUCH;
        }
        int was = now.cold >> cart & 1;
        if (!acts.add(Acts.FROZEN, cart, on)) {
            return NOT_NOW;
        }
        renew();
        return was;
    }

    public int undo() {
        if (noValley()) {
            return NO_SUCH;
        }
        if (acts.done == 0) {
            return NOT_NOW;
        }
        acts.done--;
        renew();
        return acts.done;
    }

    public int anew() {
        if (noValley()) {
            return NO_SUCH;
        }
        int were = acts.done;
        acts.done = 0;
        renew();
        return were;
    }

    // ---- winters drawn ----

    public int drawn(int seed, int what) {
        if (noValley() || seed < 0 || seed > GREATEST_SEED || what < 0 || what > 1) {
            return NO_SUCH;
        }
        int winter = winterOf(seed);
        return what == 0 ? winter : sagInCold(winter);
    }

    public int luck(int seed, int n, int bridge) {
        if (!told.hasBridge(bridge) || seed < 0 || seed > GREATEST_SEED || n < 1 || n > MOST_WINTERS) {
            return NO_SUCH;
        }
        int broke = 0;
        for (int i = 0; i < n; i++) {
            if (breaksInCold(winterOf((long) seed + i), bridge)) {
                broke++;
            }
        }
        return broke;
    }

    // ---- the object itself ----

    public int rate(int bridge, int n) {
        if (!told.hasBridge(bridge) || n < 1 || n > MOST_HELD) {
            return NO_SUCH;
        }
        if (acts.done > 0) {
            return NOT_NOW;
        }
        int was = told.holds[bridge];
        told.holds[bridge] = n;
        renew();
        return was;
    }

    public int count(int what) {
        switch (what) {
            case 0: return told.law;
            case 1: return told.frost;
            case 2: return told.odds;
            case 3: return told.bridges;
            case 4: return told.carts;
            case 5: return told.wards;
            case 6: return told.frosts;
            case 7: return acts.done;
            case 8: return told.lines;
            case 9: return tape.length;
            case 10: return rowsHad();
            default: return NONE;
        }
    }

    public int image(int k) {
        if (k < 0 || k >= IMAGES) {
            return NO_SUCH;
        }
        Image image = images[k];
        image.valley.take(told);
        image.acts.take(acts);
        image.has = true;
        return 0;
    }

    public int back(int k) {
        if (k < 0 || k >= IMAGES) {
            return NO_SUCH;
        }
        Image image = images[k];
        if (!image.has) {
            return EMPTY;
        }
        told.take(image.valley);
        acts.take(image.acts);
        renew();
        return 0;
    }

    public int row(int slot, int width, int n) {
        if (!hasSlot(slot) || width < 0 || width >= WIDTHS || n > MOST_NUMBERS) {
            return NO_SUCH;
        }
        if (n < 0) {
            return BELOW_ZERO;
        }
        slots[slot].begin(width, n);
        return 0;
    }

    public int write(int slot, int i, long v) {
        if (!hasSlot(slot)) {
            return NO_SUCH;
        }
        Slot row = slots[slot];
        if (!row.has) {
            return EMPTY;
        }
        if (i < 0 || i >= row.length) {
            return BEYOND;
        }
        row.numbers[i] = row.cut(v);
        return 0;
    }

    public int paste(int slot, int i, int to, int k, int n) {
        if (!hasSlot(slot) || !hasSlot(to)) {
            return NO_SUCH;
        }
        Slot from = slots[slot];
        Slot target = slots[to];
        if (!from.has || !target.has) {
            return EMPTY;
        }
        if (from.width != target.width) {
            return OTHER_WIDTH;
        }
        if (!from.spans(i, n) || !target.spans(k, n)) {
            return BEYOND;
        }
        System.arraycopy(from.numbers, i, target.numbers, k, n);
        return 0;
    }

    // ---- what the calls share ----

    private boolean noValley() {
        return told.lines == 0;
    }

    private boolean hasBoth(int bridge, int turn) {
        return told.hasBridge(bridge) && told.hasCart(turn);
    }

    private static boolean hasSlot(int slot) {
        return slot >= 0 && slot < SLOTS;
    }

    private int rowsHad() {
        int had = 0;
        for (int i = 0; i < SLOTS; i++) {
            if (slots[i].has) {
                had++;
            }
        }
        return had;
    }

    /** Each call that changes the VALLEY or its acts ends here: what was found before is old. */
    private void renew() {
        now.make(told, acts);
        story.tell();
        orderSearch.known = false;
        routeSearch.known = false;
    }

    private int firstBroken(int bits) {
        for (int t = 0; t < told.carts; t++) {
            if ((story.behind(t).ruined & bits) != 0) {
                return t;
            }
        }
        return NONE;
    }

    private int depthWith(Memory memory, int tried) {
        probe.take(memory);
        probe.pass(tried, 0, told.law);
        return probe.depth();
    }

    private void seekOrders() {
        if (!orderSearch.known) {
            trial.take(now);
            orderSearch.tryOrders(attempt);
        }
    }

    private void seekRoutes() {
        if (!routeSearch.known) {
            trial.take(now);
            routeSearch.tryRoutes(attempt);
        }
    }

    private int sagWithout(int cart) {
        return sagOfSet(((1 << told.carts) - 1) & ~(1 << cart));
    }

    /** A CART that does not come leaves its turn as one that is halted does. */
    private int sagOfSet(int set) {
        trial.take(now);
        for (int c = 0; c < told.carts; c++) {
            if ((set >> c & 1) == 0) {
                trial.ways[c] = NONE;
            }
        }
        attempt.tell();
        return attempt.atEnd().together();
    }

    private void tryCold(int winter) {
        trial.take(now);
        trial.cold = winter;
        attempt.tell();
    }

    private int sagInCold(int winter) {
        tryCold(winter);
        return attempt.atEnd().together();
    }

    private boolean breaksInCold(int winter, int bridge) {
        tryCold(winter);
        return attempt.atEnd().isBroken(bridge);
    }

    private void tryLaw(int law) {
        trial.take(now);
        trial.law = law;
        attempt.tell();
    }

    private int seekSets(int slot, int bridge) {
        if (!hasSlot(slot) || !told.hasBridge(bridge)) {
            return NO_SUCH;
        }
        if (!slots[slot].has) {
            return EMPTY;
        }
        setSearch.seek(told, bridge, slots[slot], probe);
        return 0;
    }

    private int lookAtBookFor(int slot, int cart) {
        return told.hasCart(cart) ? lookAtBook(slot) : NO_SUCH;
    }

    private int lookAtBook(int slot) {
        if (!hasSlot(slot) || noValley()) {
            return NO_SUCH;
        }
        if (!slots[slot].has) {
            return EMPTY;
        }
        return slots[slot].isBookOf(told) ? 0 : NO_SUCH;
    }

    private boolean fitsWithLoad(int slot, int cart, int load) {
        trial.take(now);
        trial.loads[cart] = load;
        attempt.tell();
        return slots[slot].tellsOf(attempt);
    }

    private void playAll(int cart, int other) {
        for (int a = 0; a < told.bridges; a++) {
            for (int b = 0; b < told.bridges; b++) {
                trial.take(now);
                trial.ways[cart] = a;
                trial.ways[other] = b;
                attempt.tell();
                ownLosses[a * MOST_BRIDGES + b] = attempt.behind(cart).loss();
                otherLosses[a * MOST_BRIDGES + b] = attempt.behind(other).loss();
            }
        }
    }

    private boolean isAtRest(int a, int b) {
        int here = a * MOST_BRIDGES + b;
        for (int changed = 0; changed < told.bridges; changed++) {
            if (ownLosses[changed * MOST_BRIDGES + b] < ownLosses[here]
                    || otherLosses[a * MOST_BRIDGES + changed] < otherLosses[here]) {
                return false;
            }
        }
        return true;
    }

    /** Of 10 to the power of the CARTS, in how many there is just this FROST. */
    private long waysTo(int winter) {
        int frosty = Integer.bitCount(winter);
        return power(told.odds, frosty) * power(10 - told.odds, told.carts - frosty);
    }

    private int winterOf(long seed) {
        long x = seed;
        int bits = 0;
        for (int c = 0; c < told.carts; c++) {
            x = (1103515245L * x + 12345L) % 2147483648L;
            if (x / 65536L % 10L < told.odds) {
                bits |= 1 << c;
            }
        }
        return bits;
    }

    private static long factorial(int n) {
        long product = 1;
        for (int i = 2; i <= n; i++) {
            product *= i;
        }
        return product;
    }

    private static long power(int base, int n) {
        long product = 1;
        for (int i = 0; i < n; i++) {
            product *= base;
        }
        return product;
    }

    /** Of a fraction in lowest terms what is above (0) or below (1); its sign stands above. */
    private static long lowestTerm(long above, long below, int what) {
        long divisor = commonDivisor(Math.abs(above), below);
        if (divisor <= 0) {
            return what;
        }
        return (what == 0 ? above : below) / divisor;
    }

    /** Of two longs it takes no more than some ninety steps. */
    private static long commonDivisor(long a, long b) {
        long great = a;
        long small = b;
        for (int i = 0; i < 200 && small != 0; i++) {
            long left = great % small;
            great = small;
            small = left;
        }
        return great;
    }

    /** The TAPE, and what is read of it. */
    private static final class Tape {
        static final int END = 0;
        static final int WORD = 1;
        static final int NUMBER = 2;
        static final int SIGN = 3;
        static final int BAD = 4;
        // Above all bounds of the document: longer numbers stop here, not to wrap around.
        static final int TOO_GREAT = 100000;

        final int[] bytes = new int[MOST_BYTES];
        final Valley read = new Valley();
        int length;
        int fault;
        int place = NONE;
        int at;
        int kind;
        int start;
        int value;
        int number;

        void put(int word) {
            for (int shift = 24; shift >= 0; shift -= 8) {
                if (length < MOST_BYTES) {
                    bytes[length] = word >>> shift & 255;
                    length++;
                }
            }
        }

        boolean parse() {
            read.clear();
            fault = 0;
            place = NONE;
            at = 0;
            next();
            // Each LINE takes a byte at least.
            for (int i = 0; i < MOST_BYTES && kind != END && fault == 0; i++) {
                if (parseLine()) {
                    read.lines++;
                }
            }
            return fault == 0;
        }

        boolean parseLine() {
            if (read.lines == 0) {
                return expect("valley") && parseValley() && expectSign();
            }
            if (isWord("bridge")) {
                return parseBridge() && expectSign();
            }
            if (isWord("cart")) {
                return parseCart() && expectSign();
            }
            if (isWord("ward")) {
                return parseWard() && expectSign();
            }
            if (isWord("frost")) {
                return parseFrost() && expectSign();
            }
            return fail(1);
        }

        boolean parseValley() {
            if (!expect("law") || !expectNumber(0, LAWS - 1)) {
                return false;
            }
            read.law = number;
            if (!expect("frost") || !expectNumber(1, 50)) {
                return false;
            }
            read.frost = number;
            if (!expect("odds") || !expectNumber(0, 10)) {
                return false;
            }
            read.odds = number;
            return true;
        }

        boolean parseBridge() {
            int bridge = read.bridges;
            if (bridge >= MOST_BRIDGES) {
                return fail(3);
            }
            next();
            if (!expect("holds") || !expectNumber(1, MOST_HELD)) {
                return false;
            }
            read.holds[bridge] = number;
            if (!expect("toll") || !expectNumber(0, 9)) {
                return false;
            }
            read.tolls[bridge] = number;
            read.bridges++;
            return true;
        }

        boolean parseCart() {
            int cart = read.carts;
            if (cart >= MOST_CARTS) {
                return fail(3);
            }
            next();
            if (!expectNumber(1, HEAVIEST)) {
                return false;
            }
            read.loads[cart] = number;
            if (!expect("by") || !expectNumber(0, read.bridges - 1)) {
                return false;
            }
            read.ways[cart] = number;
            read.carts++;
            return true;
        }

        boolean parseWard() {
            int ward = read.wards;
            if (ward >= MOST_WARDS) {
                return fail(3);
            }
            next();
            if (!expectNumber(0, read.bridges - 1)) {
                return false;
            }
            read.wardBridges[ward] = number;
            if (!expect("over") || !expectNumber(0, HEAVIEST)) {
                return false;
            }
            read.wardOvers[ward] = number;
            if (!expect("to")) {
                return false;
            }
            if (isWord("halt")) {
                number = NONE;
                next();
            } else if (!expectOther(read.wardBridges[ward]) || !expectNumber(0, read.bridges - 1)) {
                return false;
            }
            read.wardTargets[ward] = number;
            read.wards++;
            return true;
        }

        /** A WARD sends to another BRIDGE than its own; which ones there are is asked behind it. */
        boolean expectOther(int bridge) {
            if (kind == NUMBER && value == bridge) {
                return fail(2);
            }
            return true;
        }

        boolean parseFrost() {
            if (read.frosts >= MOST_FROSTS) {
                return fail(3);
            }
            next();
            if (!expect("at") || !expectNumber(0, LAST_TURN)) {
                return false;
            }
            read.cold |= 1 << number;
            read.frosts++;
            return true;
        }

        boolean fail(int which) {
            fault = which;
            place = start;
            return false;
        }

        boolean expect(String word) {
            if (!isWord(word)) {
                return fail(1);
            }
            next();
            return true;
        }

        boolean expectNumber(int low, int high) {
            if (kind != NUMBER) {
                return fail(1);
            }
            if (value < low || value > high) {
                return fail(2);
            }
            number = value;
            next();
            return true;
        }

        boolean expectSign() {
            if (kind != SIGN) {
                return fail(1);
            }
            next();
            return true;
        }

        boolean isWord(String word) {
            if (kind != WORD || at - start != word.length()) {
                return false;
            }
            for (int i = 0; i < word.length() && start + i < length; i++) {
                if (bytes[start + i] != word.charAt(i)) {
                    return false;
                }
            }
            return true;
        }

        void next() {
            while (at < length && (bytes[at] == ' ' || bytes[at] == '\n')) {
                at++;
            }
            start = at;
            if (at >= length) {
                kind = END;
                return;
            }
            kind = bytes[at] == ';' ? SIGN : BAD;
            at++;
            if (isLetter(bytes[start])) {
                kind = WORD;
                while (at < length && isLetter(bytes[at])) {
                    at++;
                }
            } else if (isDigit(bytes[start])) {
                kind = NUMBER;
                value = bytes[start] - '0';
                while (at < length && isDigit(bytes[at])) {
                    value = Math.min(TOO_GREAT, value * 10 + bytes[at] - '0');
                    at++;
                }
            }
        }

        static boolean isLetter(int sign) {
            return sign >= 'a' && sign <= 'z';
        }

        static boolean isDigit(int sign) {
            return sign >= '0' && sign <= '9';
        }
    }

    /** What is told, acts aside; without LINES there is none. */
    private static final class Valley {
        final int[] holds = new int[MOST_BRIDGES];
        final int[] tolls = new int[MOST_BRIDGES];
        final int[] loads = new int[MOST_CARTS];
        final int[] ways = new int[MOST_CARTS];
        final int[] wardBridges = new int[MOST_WARDS];
        final int[] wardOvers = new int[MOST_WARDS];
        final int[] wardTargets = new int[MOST_WARDS];
        int lines;
        int law;
        int frost;
        int odds;
        int bridges;
        int carts;
        int wards;
        int frosts;
        int cold;

        /** The rows need no clearing: nothing beyond the counts is read. */
        void clear() {
            lines = 0;
            law = 0;
            frost = 0;
            odds = 0;
            bridges = 0;
            carts = 0;
            wards = 0;
            frosts = 0;
            cold = 0;
        }

        void take(Valley other) {
            System.arraycopy(other.holds, 0, holds, 0, MOST_BRIDGES);
            System.arraycopy(other.tolls, 0, tolls, 0, MOST_BRIDGES);
            System.arraycopy(other.loads, 0, loads, 0, MOST_CARTS);
            System.arraycopy(other.ways, 0, ways, 0, MOST_CARTS);
            System.arraycopy(other.wardBridges, 0, wardBridges, 0, MOST_WARDS);
            System.arraycopy(other.wardOvers, 0, wardOvers, 0, MOST_WARDS);
            System.arraycopy(other.wardTargets, 0, wardTargets, 0, MOST_WARDS);
            lines = other.lines;
            law = other.law;
            frost = other.frost;
            odds = other.odds;
            bridges = other.bridges;
            carts = other.carts;
            wards = other.wards;
            frosts = other.frosts;
            cold = other.cold;
        }

        boolean hasBridge(int bridge) {
            return bridge >= 0 && bridge < bridges;
        }

        boolean hasCart(int cart) {
            return cart >= 0 && cart < carts;
        }

        int cartsBy(int bridge) {
            int bits = 0;
            for (int c = 0; c < carts; c++) {
                if (ways[c] == bridge) {
                    bits |= 1 << c;
                }
            }
            return bits;
        }

        /** Where the WARDS of the BRIDGE have such a load come at last. */
        int target(int bridge, int load) {
            for (int w = 0; w < wards; w++) {
                if (wardBridges[w] == bridge && wardOvers[w] < load) {
                    return wardTargets[w];
                }
            }
            return bridge;
        }
    }

    /** Acts as a row, so that the latest can be taken back; what they lead to is made anew. */
    private static final class Acts {
        static final int SENT = 0;
        static final int FROZEN = 1;

        final int[] kinds = new int[MOST_ACTS];
        final int[] carts = new int[MOST_ACTS];
        final int[] values = new int[MOST_ACTS];
        int done;

        boolean add(int kind, int cart, int value) {
            if (done < 0 || done >= MOST_ACTS) {
                return false;
            }
            kinds[done] = kind;
            carts[done] = cart;
            values[done] = value;
            done++;
            return true;
        }

        void take(Acts other) {
            System.arraycopy(other.kinds, 0, kinds, 0, MOST_ACTS);
            System.arraycopy(other.carts, 0, carts, 0, MOST_ACTS);
            System.arraycopy(other.values, 0, values, 0, MOST_ACTS);
            done = other.done;
        }
    }

    /** What a story goes by: as it is now, or with something put in its place. */
    private static final class Plan {
        final int[] loads = new int[MOST_CARTS];
        // NONE: the CART is halted, or does not come.
        final int[] ways = new int[MOST_CARTS];
        int law;
        int cold;

        void make(Valley valley, Acts acts) {
            System.arraycopy(valley.loads, 0, loads, 0, MOST_CARTS);
            System.arraycopy(valley.ways, 0, ways, 0, MOST_CARTS);
            law = valley.law;
            cold = valley.cold;
            for (int i = 0; i < acts.done; i++) {
                int cart = acts.carts[i];
                if (!valley.hasCart(cart)) {
                    continue;
                }
                if (acts.kinds[i] == Acts.SENT) {
                    ways[cart] = acts.values[i];
                } else if (acts.values[i] == 1) {
                    cold |= 1 << cart;
                } else {
                    cold &= ~(1 << cart);
                }
            }
        }

        void take(Plan other) {
            System.arraycopy(other.loads, 0, loads, 0, MOST_CARTS);
            System.arraycopy(other.ways, 0, ways, 0, MOST_CARTS);
            law = other.law;
            cold = other.cold;
        }
    }

    /** The loads that a BRIDGE remembers, the heaviest first, with the CARTS whose they were. */
    private static final class Memory {
        final int[] loads = new int[MOST_REMEMBERED];
        final int[] carts = new int[MOST_REMEMBERED];
        int size;

        void take(Memory other) {
            size = other.size;
            for (int i = 0; i < size; i++) {
                loads[i] = other.loads[i];
                carts[i] = other.carts[i];
            }
        }

        int heaviest(int k) {
            return k >= 0 && k < size ? loads[k] : NONE;
        }

        /** All become less by as much: those that are wiped out are the last ones. */
        void chill(int frost) {
            int left = 0;
            for (int i = 0; i < size; i++) {
                loads[i] -= frost;
                if (loads[i] > 0) {
                    left = i + 1;
                }
            }
            size = left;
        }

        /** A CART goes over: how many loads it wipes out. */
        int pass(int load, int cart, int law) {
            int tail = size > 0 ? loads[size - 1] : 0;
            boolean odd = load % 2 != 0;
            if ((law == 1 || law == 3 && odd) && 2 * load < tail) {
                size--;
                return 1;
            }
            if (law == 2 && size > 0 && 2 * load <= tail) {
                return 0;
            }
            int before = size;
            while (size > 0 && loads[size - 1] <= load) {
                size--;
            }
            int wiped = before - size;
            if (size < MOST_REMEMBERED) {
                loads[size] = load;
                carts[size] = cart;
                size++;
            }
            return wiped;
        }

        int depth() {
            int sum = 0;
            for (int k = 0; k < size; k++) {
                sum += loads[k] / (k + 1);
            }
            return sum;
        }

        int cartBits() {
            int bits = 0;
            for (int i = 0; i < size; i++) {
                bits |= 1 << carts[i];
            }
            return bits;
        }
    }

    /** How the BRIDGES are behind a turn, and what the CART of that turn did. */
    private static final class State {
        final Memory[] memories = new Memory[MOST_BRIDGES];
        int ruined;
        int crossed;
        int came = NONE;
        int went = NONE;
        int more;
        int noise;
        int paid;
        int wiped;

        State() {
            for (int b = 0; b < MOST_BRIDGES; b++) {
                memories[b] = new Memory();
            }
        }

        /** Only what lasts beyond a turn: the rest is told by the next one. */
        void take(State other) {
            for (int b = 0; b < MOST_BRIDGES; b++) {
                memories[b].take(other.memories[b]);
            }
            ruined = other.ruined;
            crossed = other.crossed;
        }

        void chill(int frost) {
            for (int b = 0; b < MOST_BRIDGES; b++) {
                memories[b].chill(frost);
            }
        }

        void meet(Valley valley, int cart, int way, int load, int law) {
            came = way == NONE ? NONE : valley.target(way, load);
            went = NONE;
            more = 0;
            noise = 0;
            paid = 0;
            wiped = 0;
            if (!valley.hasBridge(came) || isBroken(came)) {
                return;
            }
            Memory memory = memories[came];
            int before = memory.depth();
            noise = Math.max(0, load - Math.max(0, memory.heaviest(memory.size - 1)));
            wiped = memory.pass(load, cart, law);
            int after = memory.depth();
            went = came;
            more = after - before;
            paid = valley.tolls[came] * Math.max(0, more);
            crossed |= 1 << cart;
            if (after > valley.holds[came]) {
                ruined |= 1 << came;
            }
        }

        boolean isBroken(int bridge) {
            return (ruined >> bridge & 1) != 0;
        }

        int together() {
            int sum = 0;
            for (int b = 0; b < MOST_BRIDGES; b++) {
                sum += memories[b].depth();
            }
            return sum;
        }

        int loss() {
            return went == NONE ? LOST_BY_WAITING : paid;
        }
    }

    /** A VALLEY turn by turn, as a plan has it; turns that stay the same need no telling anew. */
    private static final class Story {
        final Valley valley;
        final Plan plan;
        final State start = new State();
        final State[] states = new State[MOST_CARTS];

        Story(Valley valley, Plan plan) {
            this.valley = valley;
            this.plan = plan;
            for (int t = 0; t < MOST_CARTS; t++) {
                states[t] = new State();
            }
        }

        void tell() {
            for (int t = 0; t < valley.carts; t++) {
                step(t, t);
            }
        }

        void step(int turn, int cart) {
            if (!valley.hasCart(turn) || !valley.hasCart(cart)) {
                return;
            }
            State state = states[turn];
            state.take(behind(turn - 1));
            if ((plan.cold >> turn & 1) != 0) {
                state.chill(valley.frost);
            }
            state.meet(valley, cart, plan.ways[cart], plan.loads[cart], plan.law);
        }

        State behind(int turn) {
            return turn >= 0 && turn < MOST_CARTS ? states[turn] : start;
        }

        State atEnd() {
            return behind(valley.carts - 1);
        }
    }

    /** The best of many rows, tried in their order; kept until the VALLEY changes. */
    private static final class Search {
        final int[] tried = new int[MOST_CARTS];
        final int[] first = new int[MOST_CARTS];
        boolean known;
        int lowest;
        int found;
        int mostOver;

        void tryOrders(Story story) {
            int carts = story.valley.carts;
            begin();
            for (int c = 0; c < carts; c++) {
                tried[c] = c;
            }
            int from = 0;
            for (int i = 0; i < MOST_TRIALS && from >= 0; i++) {
                for (int t = from; t < carts; t++) {
                    story.step(t, tried[t]);
                }
                weigh(story.atEnd());
                from = nextOrder(carts);
            }
        }

        void tryRoutes(Story story) {
            int carts = story.valley.carts;
            begin();
            for (int c = 0; c < carts; c++) {
                tried[c] = 0;
            }
            int from = 0;
            for (int i = 0; i < MOST_TRIALS && from >= 0; i++) {
                for (int t = from; t < carts; t++) {
                    story.plan.ways[t] = tried[t];
                    story.step(t, t);
                }
                weigh(story.atEnd());
                from = nextRoute(carts, story.valley.bridges);
            }
        }

        void begin() {
            known = true;
            found = 0;
            lowest = 0;
            mostOver = 0;
        }

        void weigh(State state) {
            int depth = state.together();
            if (found == 0 || depth < lowest) {
                lowest = depth;
                found = 0;
                System.arraycopy(tried, 0, first, 0, MOST_CARTS);
            }
            if (depth == lowest) {
                found++;
            }
            mostOver = Math.max(mostOver, Integer.bitCount(state.crossed));
        }

        /** The place from which on the next order is another one; NONE behind the last. */
        int nextOrder(int carts) {
            int place = carts - 2;
            while (place >= 0 && tried[place] > tried[place + 1]) {
                place--;
            }
            if (place < 0) {
                return NONE;
            }
            int greater = carts - 1;
            while (greater > place && tried[greater] < tried[place]) {
                greater--;
            }
            swap(place, greater);
            for (int low = place + 1, high = carts - 1; low < high; low++, high--) {
                swap(low, high);
            }
            return place;
        }

        void swap(int one, int other) {
            int kept = tried[one];
            tried[one] = tried[other];
            tried[other] = kept;
        }

        int nextRoute(int carts, int bridges) {
            int place = carts - 1;
            while (place >= 0 && tried[place] + 1 >= bridges) {
                tried[place] = 0;
                place--;
            }
            if (place < 0) {
                return NONE;
            }
            tried[place]++;
            return place;
        }
    }

    /** The sets of CARTS that leave a row on a BRIDGE. */
    private static final class Sets {
        // Of how many sets each CART is one.
        final int[] with = new int[MOST_CARTS];
        int carts;
        int found;
        int common;
        int seen;
        int smallest;

        void seek(Valley valley, int bridge, Slot row, Memory memory) {
            int by = valley.cartsBy(bridge);
            begin(valley.carts, by);
            for (int set = 0; set < 1 << carts; set++) {
                if ((set & ~by) == 0) {
                    memory.size = 0;
                    for (int c = 0; c < carts; c++) {
                        if ((set >> c & 1) != 0) {
                            memory.pass(valley.loads[c], c, valley.law);
                        }
                    }
                    if (row.isLeftIn(memory)) {
                        add(set);
                    }
                }
            }
        }

        void begin(int valleyCarts, int by) {
            carts = valleyCarts;
            found = 0;
            common = by;
            seen = 0;
            smallest = NONE;
            for (int c = 0; c < MOST_CARTS; c++) {
                with[c] = 0;
            }
        }

        void add(int set) {
            if (found == 0 || Integer.bitCount(set) < Integer.bitCount(smallest)) {
                smallest = set;
            }
            found++;
            common &= set;
            seen |= set;
            for (int c = 0; c < carts; c++) {
                with[c] += set >> c & 1;
            }
        }

        int question() {
            int best = NONE;
            for (int c = 0; c < carts; c++) {
                if (leftBy(c) < leftBy(best)) {
                    best = c;
                }
            }
            return best;
        }

        int leftBy(int cart) {
            if (cart < 0 || cart >= carts) {
                return found;
            }
            return Math.max(with[cart], found - with[cart]);
        }
    }

    /** A row of numbers; it is kept in longs, each cut to its WIDTH as it comes. */
    private static final class Slot {
        final long[] numbers = new long[MOST_NUMBERS];
        boolean has;
        int width;
        int length;

        void begin(int newWidth, int newLength) {
            has = true;
            width = newWidth;
            length = newLength;
            for (int i = 0; i < MOST_NUMBERS; i++) {
                numbers[i] = 0;
            }
        }

        long cut(long v) {
            switch (width) {
                case 0: return (byte) v;
                case 1: return (short) v;
                case 2: return (int) v;
                default: return v;
            }
        }

        boolean spans(int from, int n) {
            return from >= 0 && n >= 0 && (long) from + n <= length;
        }

        boolean isLeftIn(Memory memory) {
            if (memory.size != length) {
                return false;
            }
            for (int i = 0; i < memory.size; i++) {
                if (numbers[i] != memory.loads[i]) {
                    return false;
                }
            }
            return true;
        }

        /** Three numbers each: a BRIDGE, a turn, its SAG behind it. */
        boolean isBookOf(Valley valley) {
            if (length % 3 != 0) {
                return false;
            }
            for (int i = 0; i + 2 < length; i += 3) {
                if (!isWithin(numbers[i], valley.bridges - 1)
                        || !isWithin(numbers[i + 1], valley.carts - 1)
                        || !isWithin(numbers[i + 2], GREATEST_SAG)) {
                    return false;
                }
            }
            return true;
        }

        static boolean isWithin(long number, int greatest) {
            return number >= 0 && number <= greatest;
        }

        /** Asked of a row that is a book alone: its BRIDGES and turns are there. */
        boolean tellsOf(Story story) {
            for (int i = 0; i + 2 < length; i += 3) {
                int bridge = (int) numbers[i];
                int turn = (int) numbers[i + 1];
                if (!story.valley.hasBridge(bridge)
                        || story.behind(turn).memories[bridge].depth() != numbers[i + 2]) {
                    return false;
                }
            }
            return true;
        }
    }

    private static final class Image {
        final Valley valley = new Valley();
        final Acts acts = new Acts();
        boolean has;
    }
}
