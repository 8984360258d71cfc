/** Promises 1 to 9: the tape, the valley as a text, its faults, what is told. */
public final class TextTest {
    private static final Told TOLD = new Told("TextTest");
    private static final String V = Told.V;
    private static final String B = "bridge holds 9 toll 1;";
    private static final String C = "cart 5 by 0;";

    public static void main(String[] args) {
        newObject();
        feed();
        end();
        valley();
        valleyStaysByFault();
        firstLine();
        numbersOutOfBounds();
        tooMany();
        tokens();
        faultCall();
        bridge();
        cart();
        ward();
        cold();
        TOLD.close();
    }

    private static void newObject() {
        SagMemory x = new SagMemory();
        for (int what = 0; what <= 10; what++) {
            TOLD.due("count(" + what + ")", x.count(what), 0);
        }
        noValley(x);
        TOLD.due("mean(0, 0)", x.mean(0, 0), -2);
        TOLD.due("send(0, 0)", x.send(0, 0), -2);
        TOLD.due("freeze(0, 1)", x.freeze(0, 1), -2);
        TOLD.due("rate(0, 5)", x.rate(0, 5), -2);
        TOLD.due("luck(0, 1, 0)", x.luck(0, 1, 0), -2);
        TOLD.due("rest(0, 1)", x.rest(0, 1), -2);
        TOLD.due("back(0)", x.back(0), -6);
    }

    private static void noValley(SagMemory x) {
        int[] answers = {x.waits(), x.loudest(), x.tolls(), x.fails(), x.least(), x.orders(), x.across(), x.routes(), x.safe(),
            x.worst(), x.forget(), x.law(), x.by(0), x.undo(), x.anew(), x.drawn(0, 0), x.liars(0), x.laws(0)};
        for (int i = 0; i < answers.length; i++) {
            TOLD.due("call " + i + " without a VALLEY", answers[i], -2);
        }
    }

    private static void feed() {
        SagMemory x = new SagMemory();
        for (int i = 1; i <= 35; i++) {
            TOLD.due("feed " + i, x.feed(0, -1, i, 7, 8), 20 * i);
        }
        TOLD.due("feed 36", x.feed(0, 0, 0, 0, 0), -1);
        TOLD.due("count(9)", x.count(9), 700);
        TOLD.due("end(681)", x.end(681), 681);
        TOLD.due("feed at 681", x.feed(0, 0, 0, 0, 0), -1);
        TOLD.due("end(680)", x.end(680), 680);
        TOLD.due("feed at 680", x.feed(0, 0, 0, 0, 0), 700);
        SagMemory y = new SagMemory();
        // "vall" "ey l" "aw 2" " fro" "st 7", " odd" "s 9;" and blanks: the highest byte first.
        y.feed(0x76616c6c, 0x6579206c, 0x61772032, 0x2066726f, 0x73742037);
        y.feed(0x206f6464, 0x7320393b, 0x20202020, 0x0a0a0a0a, 0x20202020);
        TOLD.due("valley() by bytes", y.valley(), 1);
        TOLD.due("law", y.count(0), 2);
        TOLD.due("frost", y.count(1), 7);
        TOLD.due("odds", y.count(2), 9);
        y.feed(0xfb000000, 0, 0, 0, 0);
        TOLD.due("valley() of byte 251", y.valley(), -4);
        TOLD.due("its place", y.fault(1), 0);
    }

    private static void end() {
        SagMemory x = new SagMemory();
        TOLD.due("end(0)", x.end(0), 0);
        TOLD.due("end(1)", x.end(1), -1);
        x.feed(0, 0, 0, 0, 0);
        TOLD.due("end(21)", x.end(21), -1);
        TOLD.due("end(-1)", x.end(-1), -1);
        TOLD.due("end(min)", x.end(Integer.MIN_VALUE), -1);
        TOLD.due("count(9)", x.count(9), 20);
        TOLD.due("end(20)", x.end(20), 20);
        TOLD.due("end(3)", x.end(3), 3);
        TOLD.due("end(4)", x.end(4), -1);
        TOLD.due("count(9)", x.count(9), 3);
    }

    private static void valley() {
        SagMemory x = new SagMemory();
        TOLD.due("valley() of none", x.valley(), 0);
        TOLD.due("one line", Told.tell(x, V), 1);
        TOLD.due("tape empty", x.count(9), 0);
        TOLD.due("waits()", x.waits(), 0);
        TOLD.due("all lines", Told.tell(x, V + B + B + C + "ward 0 over 3 to 1;ward 1 over 0 to halt;frost at 6;"), 7);
        TOLD.due("count(8)", x.count(8), 7);
        TOLD.due("count(3)", x.count(3), 2);
        TOLD.due("count(4)", x.count(4), 1);
        TOLD.due("count(5)", x.count(5), 2);
        TOLD.due("count(6)", x.count(6), 1);
        x.send(0, 1);
        TOLD.due("another", Told.tell(x, V + B), 2);
        TOLD.due("no acts", x.count(7), 0);
        TOLD.due("count(4)", x.count(4), 0);
        TOLD.due("blanks alone", Told.tell(x, " \n \n"), 0);
        noValley(x);
        TOLD.due("none there", x.bridge(0, 0), -2);
        for (int what = 0; what <= 9; what++) {
            TOLD.due("count(" + what + ") of none", x.count(what), 0);
        }
    }

    private static void valleyStaysByFault() {
        SagMemory x = Told.of(V + B + C);
        x.send(0, -1);
        Told.tape(x, V + "cart 0");
        TOLD.due("fault", x.valley(), -4);
        TOLD.due("lines stay", x.count(8), 3);
        TOLD.due("acts stay", x.count(7), 1);
        TOLD.due("halted still", x.comes(0), -1);
        TOLD.due("the tape stays", x.count(9), 34);
        TOLD.due("again", x.valley(), -4);
        TOLD.due("cut", x.end(28), 28);
        TOLD.due("mended", x.valley(), 1);
        TOLD.due("no fault", x.fault(0), 0);
        TOLD.due("no place", x.fault(1), -1);
    }

    private static void faulty(String text, int fault, int place) {
        SagMemory x = new SagMemory();
        TOLD.due(text, Told.tell(x, text), -4);
        TOLD.due(text + ": fault", x.fault(0), fault);
        TOLD.due(text + ": place", x.fault(1), place);
        TOLD.due(text + ": none there", x.waits(), -2);
    }

    private static void right(String text, int lines) {
        SagMemory x = new SagMemory();
        TOLD.due(text, Told.tell(x, text), lines);
        TOLD.due(text + ": fault", x.fault(0), 0);
        TOLD.due(text + ": place", x.fault(1), -1);
    }

    private static void firstLine() {
        faulty(C, 1, 0);
        faulty("bridge holds 9 toll 1;" + V, 1, 0);
        faulty(";", 1, 0);
        faulty("7", 1, 0);
        faulty("valley", 1, 6);
        faulty("valley  ", 1, 8);
        faulty("valley law", 1, 10);
        faulty("valley law 0 frost 5 odds 3", 1, 27);
        faulty("valley law 0 frost 5 odds 3 \n", 1, 29);
        faulty("valley law 0 odds 3 frost 5;", 1, 13);
        faulty("valley law law;", 1, 11);
        faulty("valley 0;", 1, 7);
        faulty(V + V, 1, 28);
        faulty(V + B + "valley", 1, 50);
        faulty("valleylaw 0 frost 5 odds 3;", 1, 0);
        right("valley law0frost5odds3;", 1);
        right("\n valley\nlaw 00 frost 05 odds 010 ; ", 1);
    }

    private static void numbersOutOfBounds() {
        faulty("valley law 4 frost 5 odds 3;", 2, 11);
        faulty("valley law 0 frost 0 odds 3;", 2, 19);
        faulty("valley law 0 frost 51 odds 3;", 2, 19);
        faulty("valley law 0 frost 50 odds 11;", 2, 27);
        faulty("valley law 99999999999999999999999999 frost", 2, 11);
        faulty("valley law 4294967296 frost 5 odds 3;", 2, 11);
        faulty(V + "bridge holds 0", 2, 41);
        faulty(V + "bridge holds 301", 2, 41);
        faulty(V + "bridge holds 300 toll 10", 2, 50);
        faulty(V + "cart 0", 2, 33);
        faulty(V + B + "cart 100", 2, 55);
        faulty(V + C, 2, 38);
        faulty(V + B + "cart 99 by 1;", 2, 61);
        faulty(V + "ward 0", 2, 33);
        faulty(V + B + "ward 1", 2, 55);
        faulty(V + B + "ward 0 over 100", 2, 62);
        faulty(V + B + "ward 0 over 99 to 0;", 2, 68);
        faulty(V + B + "ward 0 over 5 to 1;" + B, 2, 67);
        faulty(V + B + B + "ward 1 over 5 to 1;", 2, 89);
        faulty(V + "frost at 7", 2, 37);
        right(V + "bridge holds 1 toll 0;bridge holds 300 toll 9;cart 1 by 0;cart 99 by 1;", 5);
        right(V + B + B + "ward 0 over 0 to 1;ward 1 over 99 to 0;frost at 0;frost at 6;", 7);
        right("valley law 3 frost 1 odds 0;", 1);
        right("valley law 0 frost 50 odds 10;", 1);
    }

    private static void tooMany() {
        String carts = C + C + C + C + C + C + C;
        String halt = "ward 0 over 5 to halt;";
        String frost = "frost at 0;";
        right(V + B + B + B, 4);
        right(V + B + carts, 9);
        right(V + B + halt + halt + halt + halt + halt, 7);
        right(V + frost + frost + frost + frost, 5);
        faulty(V + B + B + B + "bridge", 3, 94);
        faulty(V + B + carts + "cart", 3, 134);
        faulty(V + B + halt + halt + halt + halt + halt + "ward", 3, 160);
        faulty(V + frost + frost + frost + frost + "frost", 3, 72);
    }

    private static void tokens() {
        faulty(V + "Cart", 1, 28);
        faulty(V + "carts", 1, 28);
        faulty(V + "cartz", 1, 28);
        faulty(V + "carta", 1, 28);
        faulty(V + "\tcart", 1, 28);
        faulty(V + "halt", 1, 28);
        faulty(V + ";", 1, 28);
        faulty(V + "5", 1, 28);
        faulty(V + "bridge holds 9 toll 1.", 1, 49);
        faulty(V + "bridge holds 9 toll 1 bridge", 1, 50);
        faulty(V + "bridge holds -9", 1, 41);
        faulty(V + B + "cart by", 1, 55);
        faulty(V + B + "cart 5 over", 1, 57);
        faulty(V + B + "cart 5 by halt", 1, 60);
        faulty(V + B + "ward 0 over 5 halt;", 1, 64);
        faulty(V + B + "ward 0 over 5 to by;", 1, 67);
        faulty(V + B + "ward 0 over 5 to halts;", 1, 67);
        faulty(V + B + "ward 0 over 5 to halt", 1, 71);
        faulty(V + B + "ward 0 over 5 to ;", 1, 67);
        faulty(V + "frost 3;", 1, 34);
        faulty(V + "frost at at;", 1, 37);
        faulty(V + "frost at 3;x", 1, 39);
        faulty(V + "frost at 7 x", 2, 37);
        right(V + B + "ward 0 over 5\nto\nhalt\n;", 3);
    }

    private static void faultCall() {
        SagMemory x = new SagMemory();
        TOLD.due("fault(0)", x.fault(0), 0);
        TOLD.due("fault(1)", x.fault(1), -1);
        TOLD.due("fault(2)", x.fault(2), -1);
        TOLD.due("fault(-1)", x.fault(-1), -1);
        Told.tell(x, V + ";");
        TOLD.due("fault(0)", x.fault(0), 1);
        TOLD.due("fault(1)", x.fault(1), 28);
        TOLD.due("fault(2)", x.fault(2), -1);
        x.image(0);
        Told.tell(x, V);
        TOLD.due("fault(0)", x.fault(0), 0);
        x.back(0);
        TOLD.due("fault(0) is no part of an image", x.fault(0), 0);
    }

    private static void bridge() {
        SagMemory x = Told.of(V + "bridge holds 70 toll 2;bridge holds 300 toll 9;");
        TOLD.due("bridge(0, 0)", x.bridge(0, 0), 70);
        TOLD.due("bridge(0, 1)", x.bridge(0, 1), 2);
        TOLD.due("bridge(1, 0)", x.bridge(1, 0), 300);
        TOLD.due("bridge(1, 1)", x.bridge(1, 1), 9);
        TOLD.due("bridge(2, 0)", x.bridge(2, 0), -2);
        TOLD.due("bridge(-1, 0)", x.bridge(-1, 0), -2);
        TOLD.due("bridge(0, 2)", x.bridge(0, 2), -2);
        TOLD.due("bridge(0, -1)", x.bridge(0, -1), -2);
    }

    private static void cart() {
        SagMemory x = Told.of(V + B + B + "cart 17 by 1;" + C);
        x.send(0, 0);
        TOLD.due("cart(0, 0)", x.cart(0, 0), 17);
        TOLD.due("cart(0, 1) as told", x.cart(0, 1), 1);
        TOLD.due("cart(1, 0)", x.cart(1, 0), 5);
        TOLD.due("cart(1, 1)", x.cart(1, 1), 0);
        TOLD.due("cart(2, 0)", x.cart(2, 0), -2);
        TOLD.due("cart(-1, 0)", x.cart(-1, 0), -2);
        TOLD.due("cart(0, 2)", x.cart(0, 2), -2);
        TOLD.due("cart(0, -1)", x.cart(0, -1), -2);
    }

    private static void ward() {
        SagMemory x = Told.of(V + B + B + "ward 1 over 33 to 0;ward 0 over 0 to halt;");
        TOLD.due("ward(0, 0)", x.ward(0, 0), 1);
        TOLD.due("ward(0, 1)", x.ward(0, 1), 33);
        TOLD.due("ward(0, 2)", x.ward(0, 2), 0);
        TOLD.due("ward(1, 0)", x.ward(1, 0), 0);
        TOLD.due("ward(1, 1)", x.ward(1, 1), 0);
        TOLD.due("ward(1, 2)", x.ward(1, 2), -1);
        TOLD.due("ward(2, 0)", x.ward(2, 0), -2);
        TOLD.due("ward(-1, 0)", x.ward(-1, 0), -2);
        TOLD.due("ward(0, 3)", x.ward(0, 3), -2);
        TOLD.due("ward(0, -1)", x.ward(0, -1), -2);
    }

    private static void cold() {
        SagMemory x = Told.of(V + B + C + C + C + "frost at 1;frost at 1;frost at 3;");
        TOLD.due("cold(0)", x.cold(0), 0);
        TOLD.due("cold(1)", x.cold(1), 1);
        TOLD.due("cold(2)", x.cold(2), 0);
        TOLD.due("cold(3): no such cart", x.cold(3), -2);
        TOLD.due("cold(-1)", x.cold(-1), -2);
        TOLD.due("FROSTS told", x.count(6), 3);
        x.freeze(0, 1);
        x.freeze(1, 0);
        TOLD.due("cold(0) by an act", x.cold(0), 1);
        TOLD.due("cold(1) by an act", x.cold(1), 0);
    }
}
