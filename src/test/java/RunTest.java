import java.util.Arrays;

/**
 * Runs of calls that change an object, by chance from fixed seeds, held against a plain state: the text on the
 * TAPE, a model with its acts, copies of it for IMAGES, rows for SLOTS. All is asked behind every few calls.
 */
public final class RunTest {
    private static final Told TOLD = new Told("RunTest");
    private static final int RUNS = 120;
    private static final int CALLS = 60;

    private final Asker asker;
    private final SagMemory x;
    // The state that is due: without a VALLEY the model is null.
    private Model model;
    private String tape = "";
    private final Model[] images = new Model[3];
    private final boolean[] kept = new boolean[3];
    private final long[][] rows = new long[2][];
    private final int[] widths = new int[2];

    private RunTest(int seed) {
        asker = new Asker(TOLD, seed);
        asker.name = "run " + seed + ": ";
        x = asker.x;
    }

    public static void main(String[] args) {
        for (int seed = 0; seed < RUNS; seed++) {
            RunTest test = new RunTest(seed);
            for (int i = 0; i < CALLS; i++) {
                test.call();
                if (i % 8 == 7) {
                    test.askAll();
                }
            }
        }
        TOLD.close();
    }

    private void due(String call, long got, long want) {
        TOLD.due(asker.name + call, got, want);
    }

    private void call() {
        switch (asker.from(0, 15)) {
            case 0: case 1: feed(); break;
            case 2: end(); break;
            case 3: valley(); break;
            case 4: case 5: case 6: send(); break;
            case 7: case 8: freeze(); break;
            case 9: undo(); break;
            case 10: anew(); break;
            case 11: rate(); break;
            case 12: image(); break;
            case 13: back(); break;
            case 14: row(); break;
            default: paste(); break;
        }
    }

    private boolean rarely() {
        return asker.random.nextInt(12) == 0;
    }

    /** A text, or now and then the beginning of one, comes behind what the TAPE has; mostly it is emptied first. */
    private void feed() {
        if (!tape.isEmpty() && !rarely()) {
            due("end(0)", x.end(0), 0);
            tape = "";
        }
        String text = rarely() ? " \n " : asker.made().text();
        text = rarely() ? text.substring(0, asker.from(0, text.length())) : text;
        int begun = tape.length();
        for (int i = 0; i < text.length(); i += 20) {
            int[] words = new int[5];
            for (int k = 0; k < 20; k++) {
                char sign = i + k < text.length() ? text.charAt(i + k) : '?';
                words[k / 4] = words[k / 4] << 8 | sign;
                tape += sign;
            }
            boolean room = tape.length() <= 700;
            due("feed", x.feed(words[0], words[1], words[2], words[3], words[4]), room ? tape.length() : -1);
            tape = room ? tape : tape.substring(0, tape.length() - 20);
        }
        int length = Math.min(begun + text.length(), tape.length());
        due("end(" + length + ")", x.end(length), length);
        tape = tape.substring(0, length);
        if (!rarely()) {
            valley();
        }
    }

    private void end() {
        int n = asker.from(-2, tape.length() + 2);
        boolean such = n >= 0 && n <= tape.length();
        due("end(" + n + ")", x.end(n), such ? n : -1);
        tape = such ? tape.substring(0, n) : tape;
    }

    private void valley() {
        FaultTest reading = new FaultTest(tape);
        reading.read();
        due("valley() of " + tape, x.valley(), reading.fault == 0 ? reading.lines : -4);
        due("fault(0)", x.fault(0), reading.fault);
        due("fault(1)", x.fault(1), reading.fault == 0 ? -1 : reading.place);
        if (reading.fault == 0) {
            model = reading.lines == 0 ? null : Model.of(tape);
            tape = "";
        }
    }

    private int carts() {
        return model == null ? 0 : model.carts.size();
    }

    private int bridges() {
        return model == null ? 0 : model.bridges.size();
    }

    /** Mostly one that is there. */
    private int some(int n) {
        return n == 0 || rarely() ? asker.from(-2, n + 1) : asker.from(0, n - 1);
    }

    private void send() {
        int cart = some(carts());
        int bridge = asker.random.nextInt(4) == 0 ? -1 : some(bridges());
        boolean such = cart >= 0 && cart < carts() && bridge >= -1 && bridge < bridges();
        boolean room = model != null && model.acts.size() < 30;
        long want = !such ? -2 : !room ? -5 : model.new Case().ways[cart];
        due("send(" + cart + ", " + bridge + ")", x.send(cart, bridge), want);
        if (such && room) {
            model.acts.add(new int[] {0, cart, bridge});
        }
    }

    private void freeze() {
        int cart = some(carts());
        int on = some(2);
        boolean such = cart >= 0 && cart < carts() && on >= 0 && on <= 1;
        boolean room = model != null && model.acts.size() < 30;
        long want = !such ? -2 : !room ? -5 : model.new Case().cold[cart] ? 1 : 0;
        due("freeze(" + cart + ", " + on + ")", x.freeze(cart, on), want);
        if (such && room) {
            model.acts.add(new int[] {1, cart, on});
        }
    }

    private void undo() {
        boolean some = model != null && !model.acts.isEmpty();
        due("undo()", x.undo(), model == null ? -2 : some ? model.acts.size() - 1 : -5);
        if (some) {
            model.acts.remove(model.acts.size() - 1);
        }
    }

    /** Seldom, so that acts can come together; or there come as many as can be. */
    private void anew() {
        if (asker.random.nextInt(3) > 0) {
            for (int i = 0; i < 12; i++) {
                send();
            }
            return;
        }
        due("anew()", x.anew(), model == null ? -2 : model.acts.size());
        if (model != null) {
            model.acts.clear();
        }
    }

    private void rate() {
        int bridge = some(bridges());
        int n = rarely() ? asker.from(-1, 1) * 301 : asker.from(1, 300);
        boolean such = bridge >= 0 && bridge < bridges() && n >= 1 && n <= 300;
        boolean quiet = model != null && model.acts.isEmpty();
        due("rate(" + bridge + ", " + n + ")", x.rate(bridge, n), !such ? -2 : !quiet ? -5 : model.bridges.get(bridge)[0]);
        if (such && quiet) {
            model.bridges.get(bridge)[0] = n;
        }
    }

    private void image() {
        int k = some(3);
        boolean such = k >= 0 && k < 3;
        due("image(" + k + ")", x.image(k), such ? 0 : -2);
        if (such) {
            kept[k] = true;
            images[k] = model == null ? null : model.copy();
        }
    }

    private void back() {
        int k = some(3);
        boolean such = k >= 0 && k < 3;
        due("back(" + k + ")", x.back(k), !such ? -2 : kept[k] ? 0 : -6);
        if (such && kept[k]) {
            model = images[k] == null ? null : images[k].copy();
        }
    }

    /** A row as some CARTS might leave it, or not; a number of it is written once more. */
    private void row() {
        int slot = asker.from(0, 1);
        int width = some(4);
        int n = rarely() ? asker.from(-1, 1) * 61 : asker.from(0, 3);
        boolean such = width >= 0 && width < 4 && n <= 60;
        due("row(" + slot + ", " + width + ", " + n + ")", x.row(slot, width, n), !such ? -2 : n < 0 ? -3 : 0);
        if (such && n >= 0) {
            rows[slot] = new long[n];
            widths[slot] = width;
        }
        for (int i = 0; i < 4; i++) {
            write(asker.from(0, 1), some(3), i == 3 ? asker.random.nextLong() : asker.from(1, 99));
        }
    }

    private void write(int slot, int i, long v) {
        long[] row = rows[slot];
        boolean such = row != null && i >= 0 && i < row.length;
        due("write(" + slot + ", " + i + ", " + v + ")", x.write(slot, i, v), row == null ? -6 : such ? 0 : -7);
        if (such) {
            int left = 64 - (8 << widths[slot]);
            row[i] = v << left >> left;
        }
    }

    private void paste() {
        int from = asker.from(0, 1);
        int to = asker.from(0, 1);
        int i = some(3);
        int k = some(3);
        int n = some(3);
        long want = 0;
        if (rows[from] == null || rows[to] == null) {
            want = -6;
        } else if (widths[from] != widths[to]) {
            want = -8;
        } else if (i < 0 || k < 0 || n < 0 || i + n > rows[from].length || k + n > rows[to].length) {
            want = -7;
        }
        due("paste(" + from + ", " + i + ", " + to + ", " + k + ", " + n + ")", x.paste(from, i, to, k, n), want);
        if (want == 0) {
            System.arraycopy(rows[from].clone(), i, rows[to], k, n);
        }
    }

    private void askAll() {
        due("bytes of the TAPE", x.count(9), tape.length());
        due("LINES", x.count(8), model == null ? 0 : model.lines());
        due("acts", x.count(7), model == null ? 0 : model.acts.size());
        if (model == null) {
            due("waits()", x.waits(), -2);
            due("least()", x.least(), -2);
            return;
        }
        for (int slot = 0; slot < 2; slot++) {
            for (int b = 0; b < model.bridges.size(); b++) {
                long want = rows[slot] == null ? -6 : model.sets(rows[slot], b).size();
                due("sets of " + Arrays.toString(rows[slot]), x.sets(slot, b), want);
            }
            long want = rows[slot] == null ? -6 : book(rows[slot]);
            due("laws of " + Arrays.toString(rows[slot]), x.laws(slot), want);
        }
        asker.model = model;
        asker.askAll();
    }

    private long book(long[] row) {
        long bits = row.length % 3 == 0 ? 0 : -2;
        for (int i = 0; i < row.length; i++) {
            long most = i % 3 == 0 ? bridges() - 1 : i % 3 == 1 ? carts() - 1 : 999;
            bits = row[i] < 0 || row[i] > most ? -2 : bits;
        }
        for (int law = 0; bits >= 0 && law < 4; law++) {
            Model.Case tried = model.new Case();
            tried.by = law;
            bits |= tried.tale().fits(row) ? 1 << law : 0;
        }
        return bits;
    }
}
