import java.util.ArrayList;
import java.util.List;
import java.util.Random;

/** Calls one behind the other: at most 512 on one object, and on several objects side by side. */
public final class CallsInARowTest {
    private static final Checks CHECKS = new Checks();
    private static final int MOST_CALLS = 512;
    private static final int[] FAR = {Integer.MIN_VALUE, -61, -2, -1, 59, 60, 61, 255, 512, 1499, 1500, 2999, 3000, Integer.MAX_VALUE};

    /** An object, its twin, and the bytes that it is about to be given. */
    private static final class Seat {
        final RepairScan x = new RepairScan();
        final Twin twin = new Twin();
        final StringBuilder called = new StringBuilder();
        String file = "";
        int calls = 0;
    }

    public static void main(String[] args) {
        for (int seed = 0; seed < 1500; seed++) {
            byChance(seed, 1 + seed % 4);
        }
        ofTheLatestScanAlone();
        aScanThatThrows();
        aside();
        whatWasWrittenLast();
        sideBySide();
        CHECKS.end("CallsInARowTest");
    }

    /** Seats are taken while others are in use, so that a new object stands beside used ones. */
    private static void byChance(int seed, int seats) {
        Random random = new Random(seed);
        List<Seat> all = new ArrayList<>();
        for (int call = 0; call < seats * MOST_CALLS; call++) {
            if (all.size() < seats && (all.isEmpty() || random.nextInt(100) == 0)) {
                all.add(new Seat());
            }
            Seat seat = all.get(random.nextInt(all.size()));
            if (seat.calls < MOST_CALLS) {
                seat.calls++;
                oneCall("seed " + seed + ", ", seat, random);
            }
        }
    }

    private static void oneCall(String at, Seat seat, Random random) {
        if (seat.file.isEmpty() && random.nextInt(40) == 0) {
            String file = random.nextBoolean() ? BrokenFiles.broken(random) : BrokenFiles.pieces(random);
            seat.file = file.substring(0, Math.min(file.length(), 20 + random.nextInt(230)));
        }
        if (!seat.file.isEmpty() && random.nextInt(12) > 0) {
            byte b = (byte) seat.file.charAt(0);
            seat.file = seat.file.substring(1);
            seat.called.append((char) (b & 255));
            CHECKS.same(at + seat.called, seat.twin.add(b), Checks.outcome(() -> {
                seat.x.add(b);
                return 0;
            }));
            return;
        }
        // A scan amid a file now and then, most often at its end.
        boolean scans = random.nextInt(seat.file.isEmpty() ? 6 : 60) == 0;
        ask(at, seat, scans ? 0 : 1 + random.nextInt(13), number(random), number(random));
    }

    private static int number(Random random) {
        return random.nextInt(5) == 0 ? FAR[random.nextInt(FAR.length)] : random.nextInt(10) - 1;
    }

    private static void ask(String at, Seat seat, int which, int a, int b) {
        RepairScan x = seat.x;
        Twin twin = seat.twin;
        switch (which) {
            case 0:
                same(at, seat, "scan()", twin.scan(), x::scan);
                break;
            case 1:
                same(at, seat, "again()", twin.again(), x::again);
                break;
            case 2:
                same(at, seat, "catalogue()", twin.catalogue(), x::catalogue);
                break;
            case 3:
                same(at, seat, "pages()", twin.pages(), x::pages);
                break;
            case 4:
                same(at, seat, "cut()", twin.cut(), x::cut);
                break;
            case 5:
                same(at, seat, "page(" + a + ")", twin.page(a), () -> x.page(a));
                break;
            case 6:
                same(at, seat, "trailer(" + a + ")", twin.trailer(a), () -> x.trailer(a));
                break;
            case 7:
                same(at, seat, "whole(" + a + ")", twin.whole(a), () -> x.whole(a) ? 1 : 0);
                break;
            case 8:
                same(at, seat, "twice(" + a + ")", twin.twice(a), () -> x.twice(a));
                break;
            case 9:
                same(at, seat, "written(" + a + ")", twin.written(a), () -> x.written(a));
                break;
            case 10:
                same(at, seat, "stream(" + a + ", " + b + ")", twin.stream(a, b), () -> x.stream(a, b));
                break;
            case 11:
                same(at, seat, "mended(" + a + ", " + b + ")", twin.mended(a, b), () -> x.mended(a, b));
                break;
            default:
                same(at, seat, "found(" + a + ", " + b + ")", twin.found(a, b), () -> x.found(a, b));
                break;
        }
    }

    private static void same(String at, Seat seat, String call, String due, Checks.Call answer) {
        seat.called.append('{').append(call).append('}');
        CHECKS.same(at + seat.called, due, Checks.outcome(answer));
    }

    /** Answers of each kind: mends 9, 1, 4 and 10, a number twice, a page, data, a trailer, a cut object. */
    private static final String FULL = "1 0 obj<</Type/Catalog/Pages 2 0 R>>endobj 2 0 obj<</A 9 0 R>>endobj 2 0 obj<</Type/Pages/Kids[3 0 R]>>"
            + "3 0 obj<</Type/Page/Length 2>>stream\nabendstream endobj trailer<</Root 1 0 R/Size 4>>4 0 obj";
    private static final String FULL_ANEW = "%P\n1 0 obj\n<</Type/Catalog/Pages 2 0 R>>\nendobj\n2 0 obj\n<</Type/Pages/Kids[3 0 R]>>\nendobj\n"
            + "3 0 obj\n<< /Length 2 /Type/Page>> stream\nab\nendstream\nendobj\ntrailer << /Root 1 0 R >>\n";
    private static final String FULL_DUE = "9@0 1@103 4@43 10@188 catalogue 1 pages 3 cut 4 trailer 1 4 twice 2" + none(0)
            + " object 1 0 7 36 1 1 1 NoSuchElementException NoSuchElementException"
            + " object 2 69 76 103 2 1 0 NoSuchElementException NoSuchElementException object 3 103 110 152 3 0 1 2 97";
    private static final String EMPTY = "%P\n";
    private static final String EMPTY_DUE = "6@0 catalogue 0 pages  cut 0 trailer 0 0 twice " + none(0) + none(1) + none(2) + none(3);
    private static final String NEW_DUE = EMPTY_DUE.substring(4);

    private static String none(int object) {
        return " object " + object + " NoSuchElementException".repeat(8);
    }

    /** All answers but those of written. */
    private static String scanAnswers(RepairScan x) {
        String all = Checks.answers(x, 3);
        return all.substring(0, all.indexOf(" written "));
    }

    /** Promise 3: "The bytes are taken and SCANNED"; Promise 5: "Of the latest scan". */
    private static void ofTheLatestScanAlone() {
        RepairScan x = Checks.scanned(FULL);
        CHECKS.same("3 the first", FULL_DUE, scanAnswers(x));
        Checks.feed(x, EMPTY);
        CHECKS.same("3 bytes that wait change no answer", FULL_DUE, scanAnswers(x));
        CHECKS.same("3 the bytes of the first are none of the second", 0, x.scan());
        CHECKS.same("3 the second alone", EMPTY_DUE, scanAnswers(x));
        Checks.feed(x, FULL);
        CHECKS.same("3 bytes that wait change no answer", EMPTY_DUE, scanAnswers(x));
        CHECKS.same("3 the third", 3, x.scan());
        CHECKS.same("3 the third alone", FULL_DUE, scanAnswers(x));
    }

    /** Promise 3: "IllegalStateException when there are none, and all is as it was". */
    private static void aScanThatThrows() {
        RepairScan x = new RepairScan();
        CHECKS.raises("3 none on a new object", IllegalStateException.class, x::scan);
        CHECKS.same("3 a new object is as it was", NEW_DUE, scanAnswers(x).trim());
        CHECKS.same("3 nothing was scanned", 0, x.again());
        CHECKS.same("3 nothing was scanned", 0, x.written(-1));
        Checks.feed(x, FULL);
        x.scan();
        CHECKS.raises("3 the bytes are taken", IllegalStateException.class, x::scan);
        CHECKS.same("3 all is as it was", FULL_DUE, scanAnswers(x));
        CHECKS.same("3 nothing was written", 0, x.written(-1));
        CHECKS.same("3 what was scanned is written", 0, x.again());
        CHECKS.same("3 what was scanned is written", FULL_ANEW, Checks.written(x));
        CHECKS.raises("3 what is written is not there for a scan", IllegalStateException.class, x::scan);
        CHECKS.same("3 all is as it was", FULL_DUE, scanAnswers(x));
        CHECKS.same("3 what was written is as it was", FULL_ANEW, Checks.written(x));
    }

    /** Promise 14: "that is scanned, aside": the mends that are counted are not those that mended tells. */
    private static void aside() {
        String file = "1 0 obj<</Type/Page/A 9 0 R>>1 0 obj<</Type/Page/A 9 0 R>>stream\n9 0 R";
        String due = "9@0 1@29 3@65 2@65 4@0 5@29 6@0 8@0 catalogue 0 pages 1 cut 0 trailer 0 0 twice 1" + none(0)
                + " object 1 29 36 70 3 1 0 5 57" + none(2) + none(3);
        RepairScan x = Checks.scanned(file);
        CHECKS.same("14 before", due, scanAnswers(x));
        for (int time = 1; time <= 3; time++) {
            CHECKS.same("14 time " + time, 2, x.again());
            CHECKS.same("14 aside, time " + time, due, scanAnswers(x));
            CHECKS.same("14 written, time " + time, "%P\n1 0 obj\n<< /Length 5 /Type/Page/A null>> stream\n9 0 R\nendstream\nendobj\n", Checks.written(x));
        }
        Checks.feed(x, Checks.written(x));
        CHECKS.same("14 what was written, as a file", 1, x.scan());
        CHECKS.same("14 its mends", "6@0 8@0", Checks.mends(x));
    }

    /** Promise 15: "what was written last", also when bytes were added or scanned since. */
    private static void whatWasWrittenLast() {
        RepairScan x = Checks.scanned(FULL);
        x.again();
        Checks.feed(x, EMPTY);
        CHECKS.same("15 bytes were added since", FULL_ANEW, Checks.written(x));
        x.scan();
        CHECKS.same("15 others were scanned since", FULL_ANEW, Checks.written(x));
        Checks.feed(x, FULL.replace("ab", "cd"));
        x.scan();
        CHECKS.same("15 others were scanned twice since", FULL_ANEW, Checks.written(x));
        CHECKS.raises("15 a scan has thrown since", IllegalStateException.class, x::scan);
        CHECKS.same("15 a scan has thrown since", FULL_ANEW, Checks.written(x));
        Checks.feed(x, EMPTY);
        x.again();
        CHECKS.same("15 of the latest scan, not of the bytes that wait", FULL_ANEW.replace("ab", "cd"), Checks.written(x));
        x.scan();
        x.again();
        CHECKS.same("15 a shorter one", EMPTY, Checks.written(x));
    }

    /** Sixteen objects, each with a file of its own: no answer depends on what the others were given. */
    private static void sideBySide() {
        RepairScan[] all = new RepairScan[16];
        for (int i = 0; i < all.length; i++) {
            all[i] = new RepairScan();
        }
        for (int place = 0; place < FULL.length(); place++) {
            for (int i = 0; i < all.length; i++) {
                if (i % 4 != 3) {
                    all[i].add((byte) (i % 4 == 1 ? ' ' : FULL.charAt(place)));
                }
            }
        }
        for (int i = 0; i < all.length; i++) {
            if (i % 4 < 2) {
                CHECKS.same("scan of object " + i, i % 4 == 0 ? 3 : 0, all[i].scan());
            }
        }
        for (int i = 0; i < all.length; i += 4) {
            CHECKS.same("again beside others", 0, all[i].again());
            CHECKS.same("again beside others", 1, all[i + 1].again());
            CHECKS.same("again beside others, nothing scanned", 0, all[i + 2].again());
            CHECKS.same("again beside others, nothing added", 0, all[i + 3].again());
        }
        for (int i = 0; i < all.length; i++) {
            String due = i % 4 == 0 ? FULL_DUE : i % 4 == 1 ? "9@0 " + EMPTY_DUE : NEW_DUE;
            CHECKS.same("answers of object " + i, due, scanAnswers(all[i]).trim());
            CHECKS.same("written of object " + i, i % 4 == 0 ? FULL_ANEW : i % 4 == 1 ? EMPTY : "", Checks.written(all[i]));
        }
    }
}
