import java.math.BigInteger;
import java.util.ArrayList;
import java.util.Arrays;
import java.util.Collections;
import java.util.List;

/** The document told once more, as plainly as can be and with the whole library: what SagMemory is held against. */
final class Model {
    int law;
    int frost;
    int odds;
    final List<int[]> bridges = new ArrayList<>();
    final List<int[]> carts = new ArrayList<>();
    final List<int[]> wards = new ArrayList<>();
    final List<Integer> frosts = new ArrayList<>();
    final List<int[]> acts = new ArrayList<>();

    String text() {
        StringBuilder text = new StringBuilder("valley law " + law + " frost " + frost + " odds " + odds + ";");
        for (int[] bridge : bridges) {
            text.append("bridge holds ").append(bridge[0]).append(" toll ").append(bridge[1]).append(";");
        }
        for (int[] cart : carts) {
            text.append("cart ").append(cart[0]).append(" by ").append(cart[1]).append(";");
        }
        for (int[] ward : wards) {
            text.append("ward ").append(ward[0]).append(" over ").append(ward[1]).append(" to ")
                .append(ward[2] < 0 ? "halt" : "" + ward[2]).append(";");
        }
        for (int at : frosts) {
            text.append("frost at ").append(at).append(";");
        }
        return text.toString();
    }

    /** Of a text without FAULTS. */
    static Model of(String text) {
        Model made = new Model();
        for (String line : text.replaceAll("\\s+", " ").split(";")) {
            String[] words = line.trim().split(" ");
            switch (words[0]) {
                case "valley":
                    made.law = Integer.parseInt(words[2]);
                    made.frost = Integer.parseInt(words[4]);
                    made.odds = Integer.parseInt(words[6]);
                    break;
                case "bridge":
                    made.bridges.add(new int[] {Integer.parseInt(words[2]), Integer.parseInt(words[4])});
                    break;
                case "cart":
                    made.carts.add(new int[] {Integer.parseInt(words[1]), Integer.parseInt(words[3])});
                    break;
                case "ward":
                    made.wards.add(new int[] {Integer.parseInt(words[1]), Integer.parseInt(words[3]),
                        words[5].equals("halt") ? -1 : Integer.parseInt(words[5])});
                    break;
                case "frost":
                    made.frosts.add(Integer.parseInt(words[2]));
                    break;
                default:
                    break;
            }
        }
        return made;
    }

    int lines() {
        return 1 + bridges.size() + carts.size() + wards.size() + frosts.size();
    }

    Model copy() {
        Model other = new Model();
        other.law = law;
        other.frost = frost;
        other.odds = odds;
        for (int[] bridge : bridges) {
            other.bridges.add(bridge.clone());
        }
        other.carts.addAll(carts);
        other.wards.addAll(wards);
        other.frosts.addAll(frosts);
        other.acts.addAll(acts);
        return other;
    }

    /** All that a story goes by. */
    final class Case {
        int by = law;
        int[] loads = new int[carts.size()];
        int[] ways = new int[carts.size()];
        boolean[] cold = new boolean[carts.size()];
        // Who comes at each turn.
        List<Integer> row = new ArrayList<>();

        Case() {
            for (int c = 0; c < carts.size(); c++) {
                loads[c] = carts.get(c)[0];
                ways[c] = carts.get(c)[1];
                cold[c] = frosts.contains(c);
                row.add(c);
            }
            for (int[] act : acts) {
                if (act[0] == 0) {
                    ways[act[1]] = act[2];
                } else {
                    cold[act[1]] = act[2] == 1;
                }
            }
        }

        Case winter(int bits) {
            for (int c = 0; c < cold.length; c++) {
                cold[c] = (bits >> c & 1) == 1;
            }
            return this;
        }

        /** Those who do not come leave an empty turn. */
        Case of(int set) {
            for (int c = 0; c < loads.length; c++) {
                if ((set >> c & 1) == 0) {
                    row.set(c, -1);
                }
            }
            return this;
        }

        Tale tale() {
            return new Tale(this);
        }
    }

    /** What happened: all by turn. */
    final class Tale {
        final int n = carts.size();
        final int[] goes = new int[n];
        final int[] comes = new int[n];
        final int[] gives = new int[n];
        final int[] creak = new int[n];
        final int[] pays = new int[n];
        final int[] wipes = new int[n];
        final int[] broken = new int[n];
        final List<List<List<int[]>>> behind = new ArrayList<>();
        int crossed;

        Tale(Case c) {
            Arrays.fill(goes, -1);
            Arrays.fill(comes, -1);
            List<List<int[]>> all = new ArrayList<>();
            for (int b = 0; b < bridges.size(); b++) {
                all.add(new ArrayList<>());
            }
            int bits = 0;
            for (int t = 0; t < n; t++) {
                if (c.cold[t]) {
                    for (int b = 0; b < all.size(); b++) {
                        all.set(b, frozen(all.get(b)));
                    }
                }
                int who = c.row.get(t);
                int to = who < 0 || c.ways[who] < 0 ? -1 : sent(c.ways[who], c.loads[who]);
                if (who >= 0) {
                    comes[who] = to;
                }
                if (to >= 0 && (bits >> to & 1) == 0) {
                    List<int[]> old = all.get(to);
                    List<int[]> next = passed(old, c.loads[who], who, c.by);
                    goes[who] = to;
                    crossed |= 1 << who;
                    gives[who] = sag(next) - sag(old);
                    creak[who] = Math.max(0, c.loads[who] - (old.isEmpty() ? 0 : old.get(old.size() - 1)[0]));
                    pays[who] = Math.max(0, gives[who]) * bridges.get(to)[1];
                    for (int[] one : old) {
                        wipes[who] += next.contains(one) ? 0 : 1;
                    }
                    all.set(to, next);
                    if (sag(next) > bridges.get(to)[0]) {
                        bits |= 1 << to;
                    }
                }
                broken[t] = bits;
                behind.add(new ArrayList<>(all));
            }
        }

        List<int[]> at(int bridge, int turn) {
            return turn < 0 ? new ArrayList<>() : behind.get(turn).get(bridge);
        }

        int sagAt(int bridge, int turn) {
            return sag(at(bridge, turn));
        }

        int all(int turn) {
            int sum = 0;
            for (int b = 0; b < bridges.size(); b++) {
                sum += sagAt(b, turn);
            }
            return sum;
        }

        int end() {
            return all(n - 1);
        }

        int brokenAtEnd() {
            return n == 0 ? 0 : broken[n - 1];
        }

        boolean fits(long[] book) {
            for (int i = 0; i < book.length; i += 3) {
                if (sagAt((int) book[i], (int) book[i + 1]) != book[i + 2]) {
                    return false;
                }
            }
            return true;
        }
    }

    private List<int[]> frozen(List<int[]> loads) {
        List<int[]> left = new ArrayList<>();
        for (int[] one : loads) {
            if (one[0] - frost > 0) {
                left.add(new int[] {one[0] - frost, one[1]});
            }
        }
        return left;
    }

    private int sent(int bridge, int load) {
        for (int[] ward : wards) {
            if (ward[0] == bridge && load > ward[1]) {
                return ward[2];
            }
        }
        return bridge;
    }

    static List<int[]> passed(List<int[]> old, int load, int who, int law) {
        if (law == 3) {
            return passed(old, load, who, load % 2 == 0 ? 0 : 1);
        }
        List<int[]> next = new ArrayList<>(old);
        double half = old.isEmpty() ? -1 : old.get(old.size() - 1)[0] / 2.0;
        if (law == 1 && !old.isEmpty() && load < half) {
            next.remove(next.size() - 1);
            return next;
        }
        if (law == 2 && !old.isEmpty() && !(load > half)) {
            return next;
        }
        next.removeIf(one -> one[0] <= load);
        next.add(new int[] {load, who});
        return next;
    }

    static int sag(List<int[]> loads) {
        int sum = 0;
        for (int k = 0; k < loads.size(); k++) {
            sum += loads.get(k)[0] / (k + 1);
        }
        return sum;
    }

    List<List<Integer>> allOrders() {
        List<List<Integer>> found = new ArrayList<>();
        addOrders(found, new ArrayList<>());
        return found;
    }

    private void addOrders(List<List<Integer>> found, List<Integer> begun) {
        if (begun.size() == carts.size()) {
            found.add(new ArrayList<>(begun));
        }
        for (int c = 0; c < carts.size(); c++) {
            if (!begun.contains(c)) {
                begun.add(c);
                addOrders(found, begun);
                begun.remove(begun.size() - 1);
            }
        }
    }

    List<int[]> allRoutes() {
        List<int[]> found = new ArrayList<>();
        int all = 1;
        for (int c = 0; c < carts.size(); c++) {
            all *= bridges.size();
        }
        for (int i = 0; i < all; i++) {
            int[] row = new int[carts.size()];
            int left = i;
            for (int c = carts.size() - 1; c >= 0; c--) {
                row[c] = left % bridges.size();
                left /= bridges.size();
            }
            found.add(row);
        }
        return found;
    }

    /** The sets, as bits, that leave the row. */
    List<Integer> sets(long[] row, int bridge) {
        List<Integer> found = new ArrayList<>();
        for (int set = 0; set < 1 << carts.size(); set++) {
            List<int[]> loads = new ArrayList<>();
            boolean his = true;
            for (int c = 0; c < carts.size(); c++) {
                if ((set >> c & 1) == 1) {
                    his &= carts.get(c)[1] == bridge;
                    loads = passed(loads, carts.get(c)[0], c, law);
                }
            }
            boolean same = loads.size() == row.length;
            for (int i = 0; same && i < row.length; i++) {
                same = loads.get(i)[0] == row[i];
            }
            if (his && same) {
                found.add(set);
            }
        }
        return found;
    }

    /** By every order of counting, one by one. */
    long[] share(int cart) {
        long sum = 0;
        long orders = 0;
        for (List<Integer> order : allOrders()) {
            int set = 0;
            for (int c : order) {
                if (c == cart) {
                    sum += new Case().of(set | 1 << c).tale().end() - new Case().of(set).tale().end();
                }
                set |= 1 << c;
            }
            orders++;
        }
        return lowest(sum, orders);
    }

    long[] chance(int bridge) {
        long sum = 0;
        for (int bits = 0; bits < 1 << carts.size(); bits++) {
            if ((new Case().winter(bits).tale().brokenAtEnd() >> bridge & 1) == 1) {
                sum += weight(bits);
            }
        }
        return lowest(sum, (long) Math.pow(10, carts.size()));
    }

    long[] mean(int bridge) {
        long sum = 0;
        for (int bits = 0; bits < 1 << carts.size(); bits++) {
            sum += weight(bits) * new Case().winter(bits).tale().sagAt(bridge, carts.size() - 1);
        }
        return lowest(sum, (long) Math.pow(10, carts.size()));
    }

    private long weight(int bits) {
        long product = 1;
        for (int c = 0; c < carts.size(); c++) {
            product *= (bits >> c & 1) == 1 ? odds : 10 - odds;
        }
        return product;
    }

    static long[] lowest(long above, long below) {
        long divisor = BigInteger.valueOf(above).gcd(BigInteger.valueOf(below)).longValue();
        return new long[] {above / divisor, below / divisor};
    }

    /** Loses of both, by the pair. */
    int[][] losses(int cart, int other) {
        int n = bridges.size();
        int[][] lost = new int[2][n * n];
        for (int pair = 0; pair < n * n; pair++) {
            Case c = new Case();
            c.ways[cart] = pair / n;
            c.ways[other] = pair % n;
            Tale tale = c.tale();
            lost[0][pair] = tale.pays[cart] + (tale.goes[cart] < 0 ? 9 : 0);
            lost[1][pair] = tale.pays[other] + (tale.goes[other] < 0 ? 9 : 0);
        }
        return lost;
    }

    List<Integer> rests(int cart, int other) {
        int n = bridges.size();
        int[][] lost = losses(cart, other);
        List<Integer> found = new ArrayList<>();
        for (int a = 0; a < n; a++) {
            for (int b = 0; b < n; b++) {
                List<Integer> own = new ArrayList<>();
                List<Integer> his = new ArrayList<>();
                for (int i = 0; i < n; i++) {
                    own.add(lost[0][i * n + b]);
                    his.add(lost[1][a * n + i]);
                }
                if (Collections.min(own) == lost[0][a * n + b] && Collections.min(his) == lost[1][a * n + b]) {
                    found.add(10 * a + b);
                }
            }
        }
        return found;
    }

    int winter(long seed) {
        BigInteger x = BigInteger.valueOf(seed);
        int bits = 0;
        for (int c = 0; c < carts.size(); c++) {
            x = x.multiply(BigInteger.valueOf(1103515245)).add(BigInteger.valueOf(12345)).mod(BigInteger.ONE.shiftLeft(31));
            if (x.shiftRight(16).mod(BigInteger.TEN).intValue() < odds) {
                bits |= 1 << c;
            }
        }
        return bits;
    }
}
