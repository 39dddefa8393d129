import java.util.Random;

/** Broken files made by chance (from fixed seeds), each call compared with Model. */
public final class RandomFilesTest {
    private static final Checks CHECKS = new Checks();

    public static void main(String[] args) {
        RepairScan x = new RepairScan();
        for (int seed = 0; seed < 40000; seed++) {
            Random random = new Random(seed);
            String file = seed % 3 == 0 ? BrokenFiles.broken(random) : BrokenFiles.pieces(random);
            if (seed % 5 == 0) {
                x = new RepairScan();
            }
            // Five files in a row on one object: nothing of an earlier scan may be left.
            if (!file.isEmpty()) {
                compare(x, seed, file);
            }
        }
        everyBeginning();
        CHECKS.end("RandomFilesTest");
    }

    /** Files that break off at each of their places, on an object that has had the whole file before. */
    private static void everyBeginning() {
        for (String file : BrokenFiles.FILES) {
            for (int size = 1; size <= file.length(); size++) {
                RepairScan x = new RepairScan();
                for (int time = 0; time < 2; time++) {
                    Checks.feed(x, file);
                    x.scan();
                }
                compare(x, size, file.substring(0, size));
                compare(x, size, file.substring(file.length() - size));
            }
        }
    }

    private static void compare(RepairScan x, int seed, String file) {
        Model due = new Model(file);
        Checks.feed(x, file);
        String at = "seed " + seed + " " + file.replace("\n", "\\n") + ": ";
        CHECKS.same(at + "scan", due.things.size(), x.scan());
        compareScan(at, due, x);
        String anew = due.anew();
        CHECKS.same(at + "again", new Model(anew).mends.size(), x.again());
        CHECKS.same(at + "written", anew, Checks.written(x));
        compareScan(at + "after again, ", due, x);
    }

    private static void compareScan(String at, Model due, RepairScan x) {
        CHECKS.same(at + "mends", String.join(" ", due.mends), Checks.mends(x));
        CHECKS.same(at + "catalogue", due.catalogue, x.catalogue());
        CHECKS.same(at + "pages", due.pages.toString().replaceAll("[\\[\\],]", ""), Checks.pages(x));
        CHECKS.same(at + "cut", due.cut, x.cut());
        CHECKS.same(at + "trailer(0)", due.root, x.trailer(0));
        CHECKS.same(at + "trailer(1)", due.size, x.trailer(1));
        CHECKS.same(at + "twice", due.twice.toString().replaceAll("[\\[\\],]", ""), Checks.twice(x));
        for (int number = -1; number <= 62; number++) {
            Model.Thing it = due.things.get(number);
            int object = number;
            if (it == null) {
                CHECKS.raises(at + "found", java.util.NoSuchElementException.class, () -> x.found(object, 9));
                continue;
            }
            long[] answers = {it.head, it.text, it.end, due.kind(number), it.references().size()};
            for (int what = 0; what < answers.length; what++) {
                CHECKS.same(at + "found(" + number + ", " + what + ")", answers[what], x.found(number, what));
            }
            CHECKS.holds(at + "whole(" + number + ")", x.whole(number) == (it.byWord && (!it.hasStream || it.byLength)));
            if (it.hasStream) {
                CHECKS.same(at + "data", due.all.substring(it.dataFrom, it.dataTo), Checks.data(x, number));
            } else {
                CHECKS.raises(at + "stream", java.util.NoSuchElementException.class, () -> x.stream(object, -1));
            }
        }
    }
}
