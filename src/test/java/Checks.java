import java.nio.charset.StandardCharsets;

/** What the tests share: counting wrong answers, and feeding and asking a RepairScan in short words. */
final class Checks {
    private int wrong = 0;
    private int made = 0;

    interface Call {
        long answer();
    }

    void same(String what, long due, long got) {
        made++;
        if (due != got) {
            wrong++;
            System.out.println(what + " answered " + got + ", due is " + due);
        }
    }

    void same(String what, String due, String got) {
        made++;
        if (!due.equals(got)) {
            wrong++;
            System.out.println(what + " answered <" + got + ">, due is <" + due + ">");
        }
    }

    void holds(String what, boolean got) {
        same(what, 1, got ? 1 : 0);
    }

    /** The very class counts: a subclass is what the machine throws. */
    void raises(String what, Class<? extends RuntimeException> due, Call call) {
        String got;
        try {
            got = "the answer " + call.answer();
        } catch (RuntimeException e) {
            got = e.getClass().getName();
        }
        same(what, due.getName(), got);
    }

    void end(String name) {
        System.out.println(name + ": " + (made - wrong) + " of " + made + " answers are as due");
        if (wrong != 0 || made == 0) {
            System.exit(1);
        }
    }

    static void feed(RepairScan x, String bytes) {
        for (byte b : bytes.getBytes(StandardCharsets.ISO_8859_1)) {
            x.add(b);
        }
    }

    static RepairScan scanned(String bytes) {
        RepairScan x = new RepairScan();
        feed(x, bytes);
        x.scan();
        return x;
    }

    /** The mends of the latest scan, such as "9@0 1@17". */
    static String mends(RepairScan x) {
        StringBuilder all = new StringBuilder();
        for (int i = 0; i < x.mended(-1, 0); i++) {
            all.append(i == 0 ? "" : " ").append(x.mended(i, 0)).append('@').append(x.mended(i, 1));
        }
        return all.toString();
    }

    static String pages(RepairScan x) {
        StringBuilder all = new StringBuilder();
        for (int i = 0; i < x.pages(); i++) {
            all.append(i == 0 ? "" : " ").append(x.page(i));
        }
        return all.toString();
    }

    static String twice(RepairScan x) {
        StringBuilder all = new StringBuilder();
        for (int i = 0; i < x.twice(-1); i++) {
            all.append(i == 0 ? "" : " ").append(x.twice(i));
        }
        return all.toString();
    }

    static String data(RepairScan x, int object) {
        StringBuilder all = new StringBuilder();
        for (int i = 0; i < x.stream(object, -1); i++) {
            all.append((char) x.stream(object, i));
        }
        return all.toString();
    }

    static String written(RepairScan x) {
        StringBuilder all = new StringBuilder();
        for (int i = 0; i < x.written(-1); i++) {
            all.append((char) x.written(i));
        }
        return all.toString();
    }

    static String outcome(Call call) {
        try {
            return Long.toString(call.answer());
        } catch (RuntimeException e) {
            return e.getClass().getSimpleName();
        }
    }

    /** What all calls that change nothing answer, of the objects up to one: two equal texts mean an equal state. */
    static String answers(RepairScan x, int lastObject) {
        StringBuilder all = new StringBuilder(mends(x));
        all.append(" catalogue ").append(x.catalogue()).append(" pages ").append(pages(x)).append(" cut ").append(x.cut());
        all.append(" trailer ").append(x.trailer(0)).append(' ').append(x.trailer(1)).append(" twice ").append(twice(x));
        for (int number = 0; number <= lastObject; number++) {
            int object = number;
            all.append(" object ").append(object);
            for (int i = 0; i <= 4; i++) {
                int what = i;
                all.append(' ').append(outcome(() -> x.found(object, what)));
            }
            all.append(' ').append(outcome(() -> x.whole(object) ? 1 : 0));
            all.append(' ').append(outcome(() -> x.stream(object, -1))).append(' ').append(outcome(() -> x.stream(object, 0)));
        }
        return all.append(" written ").append(x.written(-1)).append(' ').append(outcome(() -> x.written(x.written(-1) - 2))).toString();
    }
}
