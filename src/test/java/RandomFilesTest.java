import java.util.Random;

/** Broken files made by chance (from fixed seeds), each call compared with Model. */
public final class RandomFilesTest {
    private static final Checks CHECKS = new Checks();
    private static final String[] PIECES = {
        "1 0 obj", "2 0 obj", "3 0 obj", "1 0 obj<<", "2 0 obj <<", "4 1 obj\n<<", "60 0 obj", "60 0 obj<</Type/Page/A 8 0 R>>", "/Pages 60 0 R", "60 0 R", "61 0 obj", "0 0 obj",
        "endobj", "endobj", "endobj\n", ">>", ">>", ">> endobj", "<<", "[", "]", "<", ">", ")", "{", "}", "(a", "(1 0 obj)", "(b)",
        "%c\n", "%c", "\n", " ", "\0", "\t", "/", "/Type", "/Type /Page", "/Type/Page", "/Type /Pages", "/Type/Catalog",
        "/Pages", "/Pages 2 0 R", "/Pages 3 0 R", "/Kids", "/Kids [", "/Kids [3 0 R 4 0 R]", "/Kids[1 0 R[2 0 R]<</A 3 0 R>>]",
        "/Kids 3 0 R", "/Length", "/Length 0", "/Length 1", "/Length 2", "/Length 5", "/Length 9 0 R", "/Length(x)", "/Length 1234567",
        ">>stream\n", ">> stream\n", "stream\n", "stream", "stream\r\n", "endstream", "\nendstream", "endstreamendobj", "\nendstream\nendobj\n",
        "a", "ab", "hello", "\nabc", "trailer", "trailer<<", "trailer <</Root 1 0 R /Size 5>>", "trailer << /Root 2 0 R >>",
        "/Root", "/Root 0 0 R", "/Root 1 0 R", "/Size 7", "/Size", "R", "obj", "1 0 R", "3 0 R", "4 0 R", "9 0 R", "0 0 R", "000001 0 R",
        "0000001 0 R", "1", "0", "12", "\u00ff", "\u0080 x", "%P\n", "5 0 obj<</Type/Page>>endobj\n", "/A", "/A /B", "/A[", "/A<<",
    };
    private static final String[] FILES = {
        "%P\n1 0 obj\n<< /Type /Catalog /Pages 2 0 R >>\nendobj\n2 0 obj <</Type/Pages/Kids[3 0 R 4 0 R]>> endobj\n"
            + "3 0 obj<</Type /Page>>endobj\n4 0 obj << /Type /Page >> endobj\ntrailer << /Root 1 0 R /Size 5 >>\n",
        "%P\n7 0 obj<</Type/Catalog/Pages 8 0 R>>endobj 8 0 obj<</Type/Pages/Kids[9 0 R[10 0 R]]>>endobj "
            + "9 0 obj<</Type/Pages/Kids[11 0 R 8 0 R]>>endobj 10 0 obj<</Type/Page/Contents 12 0 R>>endobj\n"
            + "11 0 obj <</Type/Page>> endobj 12 0 obj <</Length 5>> stream\nhello\nendstream endobj\ntrailer<</Root 7 0 R>>",
        "%P\n1 0 obj<</Length 4/A[1 0 R]>>stream\nabcdendstream\nendobj 2 0 obj<</Length 2 0 R /Length 11>>\nstream\n"
            + "a endstream\nendstream\nendobj 1 0 obj 5 endobj 3 0 obj << /A << /B [ 9 0 R ] >> /C (9 0 R) >> endobj\n",
    };

    public static void main(String[] args) {
        RepairScan x = new RepairScan();
        for (int seed = 0; seed < 40000; seed++) {
            Random random = new Random(seed);
            String file = seed % 3 == 0 ? broken(random) : pieces(random);
            if (seed % 5 == 0) {
                x = new RepairScan();
            }
            // Five files in a row on one object: nothing of an earlier scan may be left.
            if (!file.isEmpty()) {
                compare(x, seed, file);
            }
        }
        everyBeginning();
        CHECKS.end("RandomFilesTest");
    }

    /** Files that break off at each of their places, on an object that has had the whole file before. */
    private static void everyBeginning() {
        for (String file : FILES) {
            for (int size = 1; size <= file.length(); size++) {
                RepairScan x = new RepairScan();
                for (int time = 0; time < 2; time++) {
                    Checks.feed(x, file);
                    x.scan();
                }
                compare(x, size, file.substring(0, size));
                compare(x, size, file.substring(file.length() - size));
            }
        }
    }

    private static String pieces(Random random) {
        StringBuilder file = new StringBuilder(random.nextInt(3) == 0 ? "" : "%P\n");
        int most = random.nextInt(20) == 0 ? 200 : 40;
        for (int left = random.nextInt(most); left > 0; left--) {
            file.append(PIECES[random.nextInt(PIECES.length)]).append(random.nextInt(3) == 0 ? "" : " ");
        }
        return file.length() > 1500 ? file.substring(0, 1500) : file.toString();
    }

    private static String broken(Random random) {
        StringBuilder file = new StringBuilder(FILES[random.nextInt(FILES.length)]);
        for (int left = random.nextInt(5); left > 0; left--) {
            int from = random.nextInt(file.length() + 1);
            int to = Math.min(file.length(), from + random.nextInt(12));
            switch (random.nextInt(5)) {
                case 0:
                    file.delete(from, to);
                    break;
                case 1:
                    file.insert(from, PIECES[random.nextInt(PIECES.length)]);
                    break;
                case 2:
                    file.insert(random.nextInt(file.length() + 1), file.substring(from, to));
                    break;
                case 3:
                    file.setLength(Math.max(from, 20));
                    break;
                default:
                    file.replace(from, to, String.valueOf((char) random.nextInt(256)));
                    break;
            }
        }
        return file.length() > 1500 ? file.substring(0, 1500) : file.toString();
    }

    private static void compare(RepairScan x, int seed, String file) {
        Model due = new Model(file);
        Checks.feed(x, file);
        String at = "seed " + seed + " " + file.replace("\n", "\\n") + ": ";
        CHECKS.same(at + "scan", due.things.size(), x.scan());
        compareScan(at, due, x);
        String anew = due.anew();
        CHECKS.same(at + "again", new Model(anew).mends.size(), x.again());
        CHECKS.same(at + "written", anew, Checks.written(x));
        compareScan(at + "after again, ", due, x);
    }

    private static void compareScan(String at, Model due, RepairScan x) {
        CHECKS.same(at + "mends", String.join(" ", due.mends), Checks.mends(x));
        CHECKS.same(at + "catalogue", due.catalogue, x.catalogue());
        CHECKS.same(at + "pages", due.pages.toString().replaceAll("[\\[\\],]", ""), Checks.pages(x));
        CHECKS.same(at + "cut", due.cut, x.cut());
        CHECKS.same(at + "trailer(0)", due.root, x.trailer(0));
        CHECKS.same(at + "trailer(1)", due.size, x.trailer(1));
        CHECKS.same(at + "twice", due.twice.toString().replaceAll("[\\[\\],]", ""), Checks.twice(x));
        for (int number = -1; number <= 62; number++) {
            Model.Thing it = due.things.get(number);
            int object = number;
            if (it == null) {
                CHECKS.raises(at + "found", java.util.NoSuchElementException.class, () -> x.found(object, 9));
                continue;
            }
            long[] answers = {it.head, it.text, it.end, due.kind(number), it.references().size()};
            for (int what = 0; what < answers.length; what++) {
                CHECKS.same(at + "found(" + number + ", " + what + ")", answers[what], x.found(number, what));
            }
            CHECKS.holds(at + "whole(" + number + ")", x.whole(number) == (it.byWord && (!it.hasStream || it.byLength)));
            if (it.hasStream) {
                CHECKS.same(at + "data", due.all.substring(it.dataFrom, it.dataTo), Checks.data(x, number));
            } else {
                CHECKS.raises(at + "stream", java.util.NoSuchElementException.class, () -> x.stream(object, -1));
            }
        }
    }
}
