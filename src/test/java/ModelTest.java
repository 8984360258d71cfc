/** Many valleys, made up from fixed seeds, and every call on them held against the plain model. */
public final class ModelTest {
    private static final Told TOLD = new Told("ModelTest");
    private static final int VALLEYS = 300;

    private final Asker asker;
    private final SagMemory x;

    private ModelTest(int seed) {
        asker = new Asker(TOLD, seed);
        x = asker.x;
    }

    public static void main(String[] args) {
        int negative = 0;
        for (int seed = 0; seed < VALLEYS; seed++) {
            ModelTest test = new ModelTest(seed);
            test.make();
            test.asker.askAll();
            test.act();
            test.asker.askAll();
            Model model = test.asker.model;
            negative += model.carts.size() > 1 && model.carts.size() < 5 && model.share(1)[0] < 0 ? 1 : 0;
        }
        TOLD.due("a share below 0 was among them", negative > 0 ? 1 : 0, 1);
        TOLD.close();
    }

    private void make() {
        asker.model = asker.made();
        leaveOld();
        asker.due("valley()", Told.tell(x, asker.model.text()), asker.model.lines());
    }

    /** Another VALLEY ahead of this one: nothing of it may be seen any more. */
    private void leaveOld() {
        Told.tell(x, "valley law 0 frost 1 odds 9;bridge holds 1 toll 9;bridge holds 1 toll 9;bridge holds 1 toll 9;"
            + "cart 99 by 0;cart 98 by 1;cart 97 by 2;cart 96 by 0;cart 95 by 1;cart 94 by 2;cart 93 by 0;frost at 5;");
        x.send(3, 2);
        x.least();
        x.routes();
        x.rate(0, 300);
        x.undo();
        x.rate(0, 300);
        x.liars(0);
    }

    private void act() {
        Model model = asker.model;
        int n = model.carts.size();
        for (int i = 0; n > 0 && i < 4; i++) {
            Model.Case now = model.new Case();
            int cart = asker.from(0, n - 1);
            if (asker.random.nextBoolean()) {
                int to = asker.from(-1, model.bridges.size() - 1);
                asker.due("send", x.send(cart, to), now.ways[cart]);
                model.acts.add(new int[] {0, cart, to});
            } else {
                int on = asker.from(0, 1);
                asker.due("freeze", x.freeze(cart, on), now.cold[cart] ? 1 : 0);
                model.acts.add(new int[] {1, cart, on});
            }
        }
        if (n > 0 && asker.random.nextBoolean()) {
            asker.due("undo", x.undo(), 3);
            model.acts.remove(3);
        }
    }
}
