import java.util.ArrayList;
import java.util.List;
import java.util.Random;
import java.util.regex.Matcher;
import java.util.regex.Pattern;

/** Promises 4 and 5 on texts spoilt by chance, held against a reading of them as rows of tokens. */
public final class FaultTest {
    private static final Told TOLD = new Told("FaultTest");
    private static final String[] BITS = {"valley", "law", "frost", "odds", "bridge", "holds", "toll", "cart", "by", "ward",
        "over", "to", "halt", "at", ";", "0", "1", "2", "3", "6", "7", "50", "99", "100", "300", "301", "00", "x", "A", "-",
        " ", "\n", "\t", "4294967297", ";;", "\u0000", "\u00ff"};
    private static final String[] LINES = {"bridge holds 50 toll 3;", "cart 20 by 0;", "cart 7 by 1;", "ward 0 over 30 to 1;",
        "ward 1 over 5 to halt;", "frost at 4;", "bridge\nholds 300 toll 0 ;", "frost at 6;"};

    // What the reading found: the fault and its place, or the lines.
    int fault;
    int place;
    int lines;
    private int bridges;
    private final List<int[]> spans = new ArrayList<>();
    private final String text;
    private int next;

    FaultTest(String text) {
        this.text = text;
        Matcher matcher = Pattern.compile("[a-z]+|[0-9]+|[^ \n]", Pattern.DOTALL).matcher(text);
        while (matcher.find()) {
            spans.add(new int[] {matcher.start(), matcher.end()});
        }
        spans.add(new int[] {text.length(), text.length()});
    }

    public static void main(String[] args) {
        Random random = new Random(7);
        int[] seen = new int[4];
        SagMemory x = new SagMemory();
        for (int i = 0; i < 20000; i++) {
            FaultTest test = new FaultTest(spoil(made(random), random));
            test.read();
            int got = Told.tell(x, test.text);
            TOLD.due(test.text, got, test.fault == 0 ? test.lines : -4);
            TOLD.due(test.text + ": fault", x.fault(0), test.fault);
            TOLD.due(test.text + ": place", x.fault(1), test.fault == 0 ? -1 : test.place);
            seen[test.fault]++;
        }
        for (int fault = 0; fault < 4; fault++) {
            TOLD.due("fault " + fault + " was among them", seen[fault] > 100 ? 1 : 0, 1);
        }
        TOLD.close();
    }

    private static String made(Random random) {
        StringBuilder text = new StringBuilder(Told.V + LINES[0] + LINES[0]);
        int lines = random.nextInt(18);
        for (int i = 0; i < lines; i++) {
            text.append(LINES[random.nextInt(random.nextInt(3) == 0 ? LINES.length : 6)]);
        }
        return text.toString();
    }

    private static String spoil(String text, Random random) {
        String spoilt = text;
        int times = random.nextInt(3);
        for (int i = 0; i < times; i++) {
            int at = random.nextInt(spoilt.length() + 1);
            int to = Math.min(spoilt.length(), at + random.nextInt(4));
            String bit = random.nextInt(4) == 0 ? "" : BITS[random.nextInt(BITS.length)];
            spoilt = spoilt.substring(0, at) + bit + spoilt.substring(to);
        }
        return random.nextInt(10) == 0 ? spoilt.substring(0, random.nextInt(spoilt.length() + 1)) : spoilt;
    }

    private String token() {
        return text.substring(spans.get(next)[0], spans.get(next)[1]);
    }

    private void refuse(int which) {
        if (fault == 0) {
            fault = which;
            place = spans.get(next)[0];
        }
    }

    private void word(String wanted) {
        if (fault == 0 && !token().equals(wanted)) {
            refuse(1);
        }
        if (fault == 0) {
            next++;
        }
    }

    /** The number, or -1 behind a fault. */
    private int number(int low, int high, int other) {
        if (fault == 0 && !token().matches("[0-9]+")) {
            refuse(1);
        }
        if (fault != 0) {
            return -1;
        }
        double value = Double.parseDouble(token());
        if (value < low || value > high || value == other) {
            refuse(2);
            return -1;
        }
        next++;
        return (int) value;
    }

    void read() {
        int[] counts = new int[4];
        int[] most = {3, 7, 5, 4};
        while (fault == 0 && !token().isEmpty()) {
            int kind = List.of("bridge", "cart", "ward", "frost").indexOf(token());
            if (lines == 0) {
                word("valley");
                word("law");
                number(0, 3, -1);
                word("frost");
                number(1, 50, -1);
                word("odds");
                number(0, 10, -1);
            } else if (kind < 0) {
                refuse(1);
            } else if (++counts[kind] > most[kind]) {
                refuse(3);
            } else {
                next++;
                line(kind);
            }
            word(";");
            lines++;
        }
    }

    private void line(int kind) {
        if (kind == 0) {
            word("holds");
            number(1, 300, -1);
            word("toll");
            number(0, 9, -1);
            bridges++;
        } else if (kind == 1) {
            number(1, 99, -1);
            word("by");
            number(0, bridges - 1, -1);
        } else if (kind == 2) {
            int own = number(0, bridges - 1, -1);
            word("over");
            number(0, 99, -1);
            word("to");
            if (token().equals("halt")) {
                word("halt");
            } else {
                number(0, bridges - 1, own);
            }
        } else {
            word("at");
            number(0, 6, -1);
        }
    }
}
