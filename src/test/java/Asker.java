import java.util.ArrayList;
import java.util.List;
import java.util.Random;

/** Asks an object all that a model can tell; what it asks by chance is of a fixed seed. */
final class Asker {
    final Told told;
    final Random random;
    final SagMemory x = new SagMemory();
    Model model = new Model();
    // What is asked of, for those who look for what went wrong.
    String name;

    Asker(Told told, int seed) {
        this.told = told;
        random = new Random(seed);
        name = "valley " + seed + ": ";
    }

    void due(String call, long got, long want) {
        told.due(name + model.text() + " " + call, got, want);
    }

    int from(int low, int high) {
        return low + random.nextInt(high - low + 1);
    }

    /** A VALLEY made up. */
    Model made() {
        Model made = new Model();
        boolean small = random.nextBoolean();
        made.law = from(0, 3);
        made.frost = from(1, small ? 5 : 50);
        made.odds = from(0, 10);
        int bridges = from(1, 3);
        for (int b = 0; b < bridges; b++) {
            made.bridges.add(new int[] {random.nextInt(4) == 0 ? 300 : from(1, small ? 20 : 150), from(0, 9)});
        }
        int carts = random.nextInt(6) == 0 ? 7 : from(0, 5);
        for (int c = 0; c < carts; c++) {
            made.carts.add(new int[] {from(1, small ? 12 : 99), from(0, bridges - 1)});
        }
        int wards = random.nextInt(2) * from(0, 5);
        for (int w = 0; w < wards; w++) {
            int bridge = from(0, bridges - 1);
            int to = bridges == 1 || random.nextInt(4) == 0 ? -1 : (bridge + from(1, bridges - 1)) % bridges;
            made.wards.add(new int[] {bridge, from(0, small ? 12 : 99), to});
        }
        int frosts = from(0, 4);
        for (int f = 0; f < frosts; f++) {
            made.frosts.add(from(0, 6));
        }
        return made;
    }

    /** SLOTS 2 and 3 have other rows behind it. */
    void askAll() {
        Model.Tale now = model.new Case().tale();
        for (int c = 0; c < model.carts.size(); c++) {
            askCart(now, c);
        }
        for (int b = 0; b < model.bridges.size(); b++) {
            askBridge(now, b);
            for (int t = 0; t < model.carts.size(); t++) {
                askBoth(now, b, t);
            }
        }
        askWhole(now);
        askOrders();
        askRoutes();
        askWithout(now);
        askLaws();
        askShares();
        askGames();
        askChance();
        askWinters();
        for (int i = 0; i < 4; i++) {
            if (!model.bridges.isEmpty()) {
                askSets();
            }
            askBooks();
        }
    }

    private void askCart(Model.Tale now, int c) {
        due("cold " + c, x.cold(c), model.new Case().cold[c] ? 1 : 0);
        due("goes " + c, x.goes(c), now.goes[c]);
        due("comes " + c, x.comes(c), now.comes[c]);
        due("gives " + c, x.gives(c), now.gives[c]);
        due("creak " + c, x.creak(c), now.creak[c]);
        due("pays " + c, x.pays(c), now.pays[c]);
        due("wipes " + c, x.wipes(c), now.wipes[c]);
        due("broken " + c, x.broken(c), now.broken[c]);
        due("all " + c, x.all(c), now.all(c));
        int deepest = 0;
        for (int b = 1; b < model.bridges.size(); b++) {
            deepest = now.sagAt(b, c) > now.sagAt(deepest, c) ? b : deepest;
        }
        due("deepest " + c, x.deepest(c), deepest);
    }

    private void askBridge(Model.Tale now, int b) {
        int n = model.carts.size();
        int over = 0;
        int breaks = -1;
        for (int c = n - 1; c >= 0; c--) {
            over |= now.goes[c] == b ? 1 << c : 0;
            breaks = (now.broken[c] >> b & 1) == 1 ? c : breaks;
        }
        int kept = 0;
        for (int[] one : now.at(b, n - 1)) {
            kept |= 1 << one[1];
        }
        due("over " + b, x.over(b), over);
        due("breaks " + b, x.breaks(b), breaks);
        due("kept " + b, x.kept(b), kept);
        due("spare " + b, x.spare(b), model.bridges.get(b)[0] - now.sagAt(b, n - 1));
    }

    private void askBoth(Model.Tale now, int b, int t) {
        List<int[]> loads = now.at(b, t);
        due("deep", x.deep(b, t), loads.size());
        for (int k = -1; k <= loads.size(); k++) {
            due("load " + k, x.load(b, t, k), k < 0 || k >= loads.size() ? -1 : loads.get(k)[0]);
        }
        due("sag", x.sag(b, t), Model.sag(loads));
        due("last", x.last(b, t), loads.isEmpty() ? -1 : loads.get(loads.size() - 1)[0]);
        int free = -1;
        int most = -1;
        for (int load = 99; load >= 0; load--) {
            int after = Model.sag(Model.passed(loads, load, 9, model.law));
            free = free < 0 && after <= Model.sag(loads) ? load : free;
            most = load > 0 && after > model.bridges.get(b)[0] ? load : most;
        }
        due("free", x.free(b, t), free);
        due("most", x.most(b, t), (now.broken[t] >> b & 1) == 1 ? -1 : most);
    }

    private void askWhole(Model.Tale now) {
        int n = model.carts.size();
        int tolls = 0;
        int loudest = -1;
        int fails = -1;
        for (int c = n - 1; c >= 0; c--) {
            tolls += now.pays[c];
            fails = now.broken[c] != 0 ? c : fails;
            loudest = now.creak[c] > 0 && (loudest < 0 || now.creak[c] >= now.creak[loudest]) ? c : loudest;
        }
        due("waits", x.waits(), (1 << n) - 1 - now.crossed);
        due("tolls", x.tolls(), tolls);
        due("loudest", x.loudest(), loudest);
        due("fails", x.fails(), fails);
    }

    private void askOrders() {
        int least = Integer.MAX_VALUE;
        int found = 0;
        int across = 0;
        List<Integer> first = null;
        for (List<Integer> order : model.allOrders()) {
            Model.Case c = model.new Case();
            c.row = order;
            Model.Tale tale = c.tale();
            across = Math.max(across, Integer.bitCount(tale.crossed));
            if (tale.end() < least) {
                least = tale.end();
                found = 0;
                first = order;
            }
            found += tale.end() == least ? 1 : 0;
        }
        due("least", x.least(), least);
        due("orders", x.orders(), found);
        due("across", x.across(), across);
        for (int i = 0; i < model.carts.size(); i++) {
            due("order " + i, x.order(i), first.get(i));
        }
    }

    private void askRoutes() {
        int least = Integer.MAX_VALUE;
        int safe = 0;
        int[] first = null;
        for (int[] route : model.allRoutes()) {
            Model.Case c = model.new Case();
            c.ways = route;
            Model.Tale tale = c.tale();
            safe = Math.max(safe, Integer.bitCount(tale.crossed));
            if (tale.end() < least) {
                least = tale.end();
                first = route;
            }
        }
        due("routes", x.routes(), least);
        due("safe", x.safe(), safe);
        for (int c = 0; c < model.carts.size(); c++) {
            due("route " + c, x.route(c), first[c]);
        }
    }

    private void askWithout(Model.Tale now) {
        int n = model.carts.size();
        int worst = -1;
        int forget = -1;
        int lowest = now.end();
        int coldest = now.end();
        for (int c = 0; c < n; c++) {
            int without = model.new Case().of((1 << n) - 1 - (1 << c)).tale().end();
            due("spared " + c, x.spared(c), now.end() - without);
            if (without < lowest) {
                lowest = without;
                worst = c;
            }
            Model.Case colder = model.new Case();
            colder.cold[c] = true;
            if (colder.tale().end() < coldest) {
                coldest = colder.tale().end();
                forget = c;
            }
        }
        due("worst", x.worst(), worst);
        due("forget", x.forget(), forget);
    }

    private void askLaws() {
        int best = 0;
        int[] by = new int[4];
        for (int law = 0; law < 4; law++) {
            Model.Case c = model.new Case();
            c.by = law;
            by[law] = c.tale().end();
            best = by[law] < by[best] ? law : best;
            due("by " + law, x.by(law), by[law]);
        }
        due("law", x.law(), best);
    }

    private void askShares() {
        if (model.carts.size() > 4) {
            return;
        }
        for (int c = 0; c < model.carts.size(); c++) {
            long[] share = model.share(c);
            due("share " + c, x.share(c, 0), share[0]);
            due("share below " + c, x.share(c, 1), share[1]);
        }
    }

    private void askGames() {
        for (int c = 0; c < model.carts.size(); c++) {
            for (int o = 0; o < model.carts.size(); o++) {
                if (c != o) {
                    List<Integer> rests = model.rests(c, o);
                    due("rests " + c + " " + o, x.rests(c, o), rests.size());
                    due("rest " + c + " " + o, x.rest(c, o), rests.isEmpty() ? -1 : rests.get(0));
                }
            }
        }
    }

    private void askChance() {
        for (int b = 0; b < model.bridges.size(); b++) {
            long[] chance = model.chance(b);
            long[] mean = model.mean(b);
            for (int what = 0; what < 2; what++) {
                due("chance " + b, x.chance(b, what), chance[what]);
                due("mean " + b, x.mean(b, what), mean[what]);
            }
        }
    }

    private void askWinters() {
        int seed = random.nextInt(2000000001);
        int n = from(1, 20);
        int[] broke = new int[model.bridges.size()];
        for (int i = 0; i < n; i++) {
            int bits = model.new Case().winter(model.winter((long) seed + i)).tale().brokenAtEnd();
            for (int b = 0; b < broke.length; b++) {
                broke[b] += bits >> b & 1;
            }
        }
        int winter = model.winter(seed);
        due("drawn 0", x.drawn(seed, 0), winter);
        due("drawn 1", x.drawn(seed, 1), model.new Case().winter(winter).tale().end());
        for (int b = 0; b < broke.length; b++) {
            due("luck " + b, x.luck(seed, n, b), broke[b]);
        }
    }

    /** The row is mostly what some set leaves; else it is made up. */
    private void askSets() {
        int bridge = from(0, model.bridges.size() - 1);
        List<int[]> loads = new ArrayList<>();
        for (int c = 0; c < model.carts.size(); c++) {
            if (model.carts.get(c)[1] == bridge && random.nextInt(3) > 0) {
                loads = Model.passed(loads, model.carts.get(c)[0], c, model.law);
            }
        }
        long[] row = new long[loads.size()];
        for (int i = 0; i < row.length; i++) {
            row[i] = loads.get(i)[0] - (random.nextInt(20) == 0 ? 1 : 0);
        }
        Told.fill(x, 2, from(0, 3), row);
        List<Integer> sets = model.sets(row, bridge);
        int surely = -1;
        int seen = 0;
        int fewest = -1;
        for (int set : sets) {
            surely &= set;
            seen |= set;
            fewest = fewest < 0 || Integer.bitCount(set) < Integer.bitCount(fewest) ? set : fewest;
        }
        int by = 0;
        int ask = -1;
        int leaves = sets.size();
        for (int c = 0; c < model.carts.size(); c++) {
            by |= model.carts.get(c)[1] == bridge ? 1 << c : 0;
            int with = 0;
            for (int set : sets) {
                with += set >> c & 1;
            }
            if (Math.max(with, sets.size() - with) < leaves) {
                leaves = Math.max(with, sets.size() - with);
                ask = c;
            }
        }
        due("sets", x.sets(2, bridge), sets.size());
        due("surely", x.surely(2, bridge), surely);
        due("never", x.never(2, bridge), sets.isEmpty() ? -1 : by & ~seen);
        due("fewest", x.fewest(2, bridge), fewest);
        due("ask", x.ask(2, bridge), ask);
        due("leaves", x.leaves(2, bridge), leaves);
    }

    /** A book of what another load of one CART would lead to, now and then with something wrong. */
    private void askBooks() {
        int n = model.carts.size();
        Model.Case lie = model.new Case();
        if (n > 0) {
            lie.loads[from(0, n - 1)] = from(1, 99);
            lie.by = random.nextInt(3) == 0 ? from(0, 3) : lie.by;
        }
        Model.Tale tale = lie.tale();
        long[] book = new long[n == 0 ? 0 : 3 * from(0, random.nextInt(5) == 0 ? 20 : 3)];
        for (int i = 0; i < book.length; i += 3) {
            book[i] = from(0, model.bridges.size() - 1);
            book[i + 1] = from(0, n - 1);
            book[i + 2] = tale.sagAt((int) book[i], (int) book[i + 1]) + (random.nextInt(30) == 0 ? 1 : 0);
        }
        Told.fill(x, 3, from(1, 3), book);
        boolean asTold = model.new Case().tale().fits(book);
        int liars = 0;
        for (int c = 0; c < n; c++) {
            List<Integer> fitting = new ArrayList<>();
            for (int load = 1; load <= 99; load++) {
                Model.Case tried = model.new Case();
                tried.loads[c] = load;
                if (tried.tale().fits(book)) {
                    fitting.add(load);
                }
            }
            liars |= !asTold && !fitting.isEmpty() ? 1 << c : 0;
            due("loads " + c, x.loads(3, c), fitting.size());
            due("light " + c, x.light(3, c), fitting.isEmpty() ? -1 : fitting.get(0));
            due("heavy " + c, x.heavy(3, c), fitting.isEmpty() ? -1 : fitting.get(fitting.size() - 1));
        }
        due("liars", x.liars(3), liars);
        int laws = 0;
        for (int law = 0; law < 4; law++) {
            Model.Case tried = model.new Case();
            tried.by = law;
            laws |= tried.tale().fits(book) ? 1 << law : 0;
        }
        due("laws", x.laws(3), laws);
    }
}
