import java.util.NoSuchElementException;

/** The sentences of the promises that name an edge (new, empty, full, below, above, refused): each has its own method. */
public final class EdgesOfCallsTest {
    private static final Checks CHECKS = new Checks();
    private static final int[] INTS = {Integer.MIN_VALUE, Integer.MIN_VALUE + 1, -1500, -61, -60, -3, -2, -1, 0, 1, 2, 3, 4, 5, 6,
        59, 60, 61, 255, 256, 1499, 1500, 2999, 3000, Integer.MAX_VALUE - 1, Integer.MAX_VALUE};
    private static final Class<NoSuchElementException> NO_ELEMENT = NoSuchElementException.class;
    private static final Class<IndexOutOfBoundsException> NO_INDEX = IndexOutOfBoundsException.class;

    /** Objects 1 to 4 and 60 are there, 5 is cut, 6 stands in a string and in data, 7 is only referred to. */
    private static final String FILE = "%P\n1 0 obj<</Type/Catalog/Pages 2 0 R>>endobj 2 0 obj<</Type/Pages/Kids[3 0 R 60 0 R]>>endobj\n"
            + "3 0 obj<</Type/Page/A 7 0 R>>2 0 obj<</Type/Pages/Kids[60 0 R 3 0 R](6 0 obj endobj)>>endobj\n"
            + "4 0 obj<</Length 18>>stream\n6 0 obj\0endobj\u0080\u00ff12\nendstream endobj 60 0 obj<</Type/Page>>endobj\n"
            + "trailer<</Root 1 0 R/Size 8>>5 0 obj<<";
    private static final int LAST = 7;

    public static void main(String[] args) {
        noBytesNothingScanned();
        unsupportedWhenThereAre1500();
        roomAgainWhenTheBytesAreTaken();
        illegalStateWhenThereAreNone();
        allIsAsItWas();
        noSuchObject();
        noStream();
        theExceptionNamedFirst();
        foundOutOfBounds();
        mendedOutOfBounds();
        pageOutOfBounds();
        trailerOutOfBounds();
        streamOutOfBounds();
        twiceOutOfBounds();
        writtenOutOfBounds();
        minusOneIsHowMany();
        catalogueZeroWhenThereIsNone();
        cutZeroWhenNoneWas();
        trailerZeroWhenItHasNoneSuch();
        theFirst3000Bytes();
        againIsAside();
        bytesAre0To255();
        aCallThatThrowsChangesNothing();
        nothingOfAnEarlierScanIsLeft();
        CHECKS.end("EdgesOfCallsTest");
    }

    private static boolean isOneOf(int i, int... all) {
        for (int each : all) {
            if (i == each) {
                return true;
            }
        }
        return false;
    }

    /** Promise 1: "No bytes, nothing scanned." Each call is the first one on an object of its own. */
    private static void noBytesNothingScanned() {
        String says = "1 No bytes, nothing scanned: ";
        CHECKS.raises(says + "scan", IllegalStateException.class, () -> new RepairScan().scan());
        CHECKS.same(says + "catalogue", 0, new RepairScan().catalogue());
        CHECKS.same(says + "pages", 0, new RepairScan().pages());
        CHECKS.same(says + "cut", 0, new RepairScan().cut());
        CHECKS.same(says + "trailer(0)", 0, new RepairScan().trailer(0));
        CHECKS.same(says + "trailer(1)", 0, new RepairScan().trailer(1));
        CHECKS.same(says + "twice(-1)", 0, new RepairScan().twice(-1));
        CHECKS.same(says + "written(-1)", 0, new RepairScan().written(-1));
        for (int i : INTS) {
            CHECKS.same(says + "mended(-1, " + i + ")", 0, new RepairScan().mended(-1, i));
            CHECKS.raises(says + "found(" + i + ", 0)", NO_ELEMENT, () -> new RepairScan().found(i, 0));
            CHECKS.raises(says + "found(1, " + i + ")", NO_ELEMENT, () -> new RepairScan().found(1, i));
            CHECKS.raises(says + "page(" + i + ")", NO_INDEX, () -> new RepairScan().page(i));
            CHECKS.raises(says + "stream(" + i + ", -1)", NO_ELEMENT, () -> new RepairScan().stream(i, -1));
            CHECKS.raises(says + "stream(1, " + i + ")", NO_ELEMENT, () -> new RepairScan().stream(1, i));
            CHECKS.raises(says + "whole(" + i + ")", NO_ELEMENT, () -> new RepairScan().whole(i) ? 1 : 0);
            if (i != -1) {
                CHECKS.raises(says + "mended(" + i + ", 0)", NO_INDEX, () -> new RepairScan().mended(i, 0));
                CHECKS.raises(says + "twice(" + i + ")", NO_INDEX, () -> new RepairScan().twice(i));
                CHECKS.raises(says + "written(" + i + ")", NO_INDEX, () -> new RepairScan().written(i));
            }
            if (i < 0 || i > 1) {
                CHECKS.raises(says + "trailer(" + i + ")", NO_INDEX, () -> new RepairScan().trailer(i));
            }
        }
        RepairScan x = new RepairScan();
        CHECKS.same(says + "again", 0, x.again());
        CHECKS.same(says + "again leaves nothing", Checks.answers(new RepairScan(), LAST), Checks.answers(x, LAST));
        Checks.feed(x, FILE);
        CHECKS.same(says + "bytes alone are nothing scanned", Checks.answers(new RepairScan(), LAST), Checks.answers(x, LAST));
        RepairScan y = new RepairScan();
        Checks.feed(y, FILE);
        CHECKS.same(says + "again of bytes that are not scanned", 0, y.again());
        CHECKS.same(says + "again of bytes that are not scanned", 0, y.written(-1));
        CHECKS.same(says + "they wait all the same", 5, y.scan());
    }

    private static String outcomeOfAdd(RepairScan x, int b) {
        return Checks.outcome(() -> {
            x.add((byte) b);
            return 0;
        });
    }

    /** Promise 2: "UnsupportedOperationException when there are 1,500." */
    private static void unsupportedWhenThereAre1500() {
        String says = "2 when there are 1,500: ";
        RepairScan x = new RepairScan();
        Checks.feed(x, "%P\n1 0 obj endobj 2 0 obj<</Length 3>>stream\nab");
        Checks.feed(x, "c".repeat(1499 - 47 - 9));
        Checks.feed(x, "endstrea");
        Checks.feed(x, "m");
        CHECKS.same(says + "the 1,500th", "0", outcomeOfAdd(x, '('));
        for (int b = -128; b <= 127; b++) {
            CHECKS.same(says + "one more, " + b, "UnsupportedOperationException", outcomeOfAdd(x, b));
        }
        CHECKS.same(says + "scan", 2, x.scan());
        CHECKS.same(says + "no byte more is there", 1500, x.found(2, 2));
        CHECKS.same(says + "the first ones are there", 3, x.found(1, 0));
        CHECKS.same(says + "all are there", 1499 - 9 - 45, x.stream(2, -1));
        RepairScan less = new RepairScan();
        Checks.feed(less, "%P\n1 0 obj<<>>stream\n" + " ".repeat(1499 - 21));
        CHECKS.same(says + "1,499", 1, less.scan());
        CHECKS.same(says + "1,499", 1499, less.found(1, 2));
    }

    /** The bytes that a scan has taken are not there any more: 1,500 others may come. */
    private static void roomAgainWhenTheBytesAreTaken() {
        RepairScan x = new RepairScan();
        for (int time = 0; time < 3; time++) {
            Checks.feed(x, "%P\n1 0 obj<<>>stream\n" + "a".repeat(1500 - 21));
            CHECKS.same("2 full, time " + time, "UnsupportedOperationException", outcomeOfAdd(x, 0));
            x.scan();
            CHECKS.same("2 all of time " + time, 1500 - 21, x.stream(1, -1));
        }
        CHECKS.same("2 not full when taken", "0", outcomeOfAdd(x, '%'));
        CHECKS.same("2 not full when taken", 0, x.scan());
    }

    /** Promise 3: "IllegalStateException when there are none". */
    private static void illegalStateWhenThereAreNone() {
        RepairScan x = new RepairScan();
        CHECKS.raises("3 none on a new object", IllegalStateException.class, x::scan);
        CHECKS.raises("3 none, once more", IllegalStateException.class, x::scan);
        for (int b = 0; b < 256; b++) {
            x.add((byte) b);
            CHECKS.same("3 one byte, " + b, 0, x.scan());
            if (b % 16 == 0) {
                CHECKS.raises("3 none when the byte was taken", IllegalStateException.class, x::scan);
            }
        }
        RepairScan y = new RepairScan();
        y.again();
        CHECKS.raises("3 none behind again", IllegalStateException.class, y::scan);
        Checks.feed(y, FILE);
        CHECKS.same("3 some", 5, y.scan());
        y.again();
        CHECKS.raises("3 what is written anew is none of them", IllegalStateException.class, y::scan);
    }

    /** Promise 3: ", and all is as it was." */
    private static void allIsAsItWas() {
        RepairScan fresh = new RepairScan();
        CHECKS.raises("3 refused", IllegalStateException.class, fresh::scan);
        CHECKS.same("3 a new object is as it was", Checks.answers(new RepairScan(), LAST), Checks.answers(fresh, LAST));
        Checks.feed(fresh, "%P\n1 0 obj endobj");
        CHECKS.same("3 a new object takes bytes as before", 1, fresh.scan());
        RepairScan x = Checks.scanned("1 0 obj endobj");
        x.again();
        Checks.feed(x, FILE.substring(0, 220));
        x.scan();
        String before = Checks.answers(x, 3);
        for (int i = 0; i < 3; i++) {
            CHECKS.raises("3 refused", IllegalStateException.class, x::scan);
        }
        CHECKS.same("3 all is as it was", before, Checks.answers(x, 3));
        CHECKS.same("3 what was written is as it was", "%P\n1 0 obj\n\nendobj\n", Checks.written(x));
        x.again();
        RepairScan y = Checks.scanned(FILE.substring(0, 220));
        y.again();
        CHECKS.same("3 what is written anew is as it was", Checks.written(y), Checks.written(x));
    }

    /** Terms: "NoSuchElementException: there is no such object." (promises 4, 11, 12) */
    private static void noSuchObject() {
        RepairScan x = Checks.scanned(FILE);
        for (int object : INTS) {
            boolean is = isOneOf(object, 1, 2, 3, 4, 60);
            CHECKS.same("4 is there: " + object, is ? "0" : "NoSuchElementException",
                    Checks.outcome(() -> x.found(object, 0) * 0));
            CHECKS.same("12 is there: " + object, is ? "0" : "NoSuchElementException",
                    Checks.outcome(() -> x.whole(object) ? 0 : 0));
            CHECKS.same("11 has a stream: " + object, object == 4 ? "18" : "NoSuchElementException",
                    Checks.outcome(() -> x.stream(object, -1)));
        }
        for (int object : new int[] {5, 6, 7, 61}) {
            CHECKS.raises("4 cut, in data, referred to, too large: " + object, NO_ELEMENT, () -> x.found(object, 3));
        }
        RepairScan y = Checks.scanned("0 0 obj endobj 61 0 obj endobj 1 0 obj endobj 60 0 obj endobj 256 0 obj endobj");
        CHECKS.same("4 the least object", 15 + 16, y.found(1, 0));
        CHECKS.same("4 the greatest object", 15 + 16 + 15, y.found(60, 0));
        for (int object : new int[] {0, 61, 256, -1, 2, 59}) {
            CHECKS.raises("4 object " + object, NO_ELEMENT, () -> y.found(object, 0));
            CHECKS.raises("11 object " + object, NO_ELEMENT, () -> y.stream(object, -1));
            CHECKS.raises("12 object " + object, NO_ELEMENT, () -> y.whole(object) ? 1 : 0);
        }
        Checks.feed(y, "%P\n");
        y.scan();
        CHECKS.raises("4 not there in the latest scan", NO_ELEMENT, () -> y.found(1, 0));
        CHECKS.raises("11 not there in the latest scan", NO_ELEMENT, () -> y.stream(1, -1));
        CHECKS.raises("12 not there in the latest scan", NO_ELEMENT, () -> y.whole(1) ? 1 : 0);
    }

    /** Promise 11: "NoSuchElementException (also when it has no stream)". */
    private static void noStream() {
        RepairScan x = Checks.scanned("1 0 obj<<>>stream\nendstream endobj 2 0 obj endobj 1 0 obj<<>>endobj 2 0 obj<<>>stream\n");
        for (int i : INTS) {
            CHECKS.raises("11 the earlier one had a stream, " + i, NO_ELEMENT, () -> x.stream(1, i));
        }
        CHECKS.same("11 a stream of no bytes is one", 0, x.stream(2, -1));
        CHECKS.raises("11 a stream of no bytes is one", NO_INDEX, () -> x.stream(2, 0));
        RepairScan y = new RepairScan();
        Checks.feed(y, "3 0 obj<</Length 1>>stream\naendstream endobj");
        y.scan();
        CHECKS.same("11 a stream", 97, y.stream(3, 0));
        Checks.feed(y, "3 0 obj<</Length 1>>stream endobj");
        y.scan();
        CHECKS.raises("11 none in the latest scan", NO_ELEMENT, () -> y.stream(3, 0));
    }

    /** Terms: "where several exceptions that a call names fit, it is the one that it names first". */
    private static void theExceptionNamedFirst() {
        RepairScan x = Checks.scanned(FILE);
        for (int object : new int[] {Integer.MIN_VALUE, -1, 0, 5, 6, 7, 61, Integer.MAX_VALUE}) {
            for (int i : new int[] {Integer.MIN_VALUE, -2, -1, 5, 18, 19, Integer.MAX_VALUE}) {
                CHECKS.raises("4 both, found(" + object + ", " + i + ")", NO_ELEMENT, () -> x.found(object, i));
                CHECKS.raises("11 both, stream(" + object + ", " + i + ")", NO_ELEMENT, () -> x.stream(object, i));
            }
        }
        for (int i : new int[] {Integer.MIN_VALUE, -2, 18, Integer.MAX_VALUE}) {
            CHECKS.raises("11 both, no stream and " + i, NO_ELEMENT, () -> x.stream(3, i));
        }
    }

    /** Promise 4: "IndexOutOfBoundsException" below 0 and above 4. */
    private static void foundOutOfBounds() {
        RepairScan x = Checks.scanned(FILE);
        long[] due = {FILE.indexOf("60 0 obj"), FILE.indexOf("60 0 obj") + 8, FILE.indexOf("endobj\ntrailer"), 3, 0};
        for (int what : INTS) {
            if (what >= 0 && what <= 4) {
                CHECKS.same("4 found(60, " + what + ")", due[what], x.found(60, what));
            } else {
                CHECKS.raises("4 found(60, " + what + ")", NO_INDEX, () -> x.found(60, what));
                CHECKS.raises("4 found(4, " + what + ")", NO_INDEX, () -> x.found(4, what));
            }
        }
    }

    /** Promise 5: "IndexOutOfBoundsException" for i below -1 and above the last, for what below 0 and above 1. */
    private static void mendedOutOfBounds() {
        RepairScan x = Checks.scanned("5 0 obj");
        int[][] due = {{9, 0}, {10, 0}, {6, 0}};
        for (int i : INTS) {
            for (int what : new int[] {Integer.MIN_VALUE, -2, -1, 0, 1, 2, 3, Integer.MAX_VALUE}) {
                if (i == -1) {
                    CHECKS.same("5 any what: " + what, 3, x.mended(i, what));
                } else if (i >= 0 && i < 3 && (what == 0 || what == 1)) {
                    CHECKS.same("5 mended(" + i + ", " + what + ")", due[i][what], x.mended(i, what));
                } else {
                    CHECKS.raises("5 mended(" + i + ", " + what + ")", NO_INDEX, () -> x.mended(i, what));
                }
            }
        }
        RepairScan none = Checks.scanned("%P\n1 0 obj<</Type/Catalog>>endobj trailer<</Root 1 0 R>>");
        for (int i : INTS) {
            CHECKS.same("5 no mend, mended(" + i + ", 1)", i == -1 ? "0" : "IndexOutOfBoundsException",
                    Checks.outcome(() -> none.mended(i, 1)));
        }
    }

    /** Promise 8: "IndexOutOfBoundsException" below 0 (-1 too) and above the last page. */
    private static void pageOutOfBounds() {
        RepairScan x = Checks.scanned(FILE);
        CHECKS.same("7 how many", 2, x.pages());
        for (int i : INTS) {
            CHECKS.same("8 page(" + i + ")", i == 0 ? "60" : i == 1 ? "3" : "IndexOutOfBoundsException",
                    Checks.outcome(() -> x.page(i)));
        }
        StringBuilder all = new StringBuilder("%P\n");
        for (int i = 60; i > 0; i--) {
            all.append(i).append(" 0 obj<</Type/Page>>");
        }
        RepairScan full = Checks.scanned(all + "endobj");
        CHECKS.same("7 sixty pages", 60, full.pages());
        CHECKS.same("8 the first of sixty", 1, full.page(0));
        CHECKS.same("8 the last of sixty", 60, full.page(59));
        CHECKS.raises("8 beyond sixty", NO_INDEX, () -> full.page(60));
        CHECKS.same("8 by their numbers", 30, full.page(29));
        Checks.feed(full, "%P\n3 0 obj<</Type/Page>>endobj");
        full.scan();
        CHECKS.same("8 of the latest scan", "3", Checks.pages(full));
        CHECKS.raises("8 of the latest scan", NO_INDEX, () -> full.page(1));
    }

    /** Promise 10: "IndexOutOfBoundsException" below 0 and above 1. */
    private static void trailerOutOfBounds() {
        RepairScan x = Checks.scanned(FILE);
        for (int key : INTS) {
            CHECKS.same("10 trailer(" + key + ")", key == 0 ? "1" : key == 1 ? "8" : "IndexOutOfBoundsException",
                    Checks.outcome(() -> x.trailer(key)));
        }
    }

    /** Promise 11: "IndexOutOfBoundsException" below -1 and above the last byte. */
    private static void streamOutOfBounds() {
        RepairScan x = Checks.scanned(FILE);
        String data = "6 0 obj\0endobj\u0080\u00ff12";
        for (int i = -1; i < 18; i++) {
            CHECKS.same("11 stream(4, " + i + ")", i == -1 ? 18 : data.charAt(i), x.stream(4, i));
        }
        for (int i : new int[] {Integer.MIN_VALUE, Integer.MIN_VALUE + 1, -3, -2, 18, 19, 1500, Integer.MAX_VALUE - 1, Integer.MAX_VALUE}) {
            CHECKS.raises("11 stream(4, " + i + ")", NO_INDEX, () -> x.stream(4, i));
        }
    }

    /** Promise 13: "IndexOutOfBoundsException" below -1 and above the last one. */
    private static void twiceOutOfBounds() {
        RepairScan x = Checks.scanned("60 0 obj endobj 60 0 obj endobj 1 0 obj endobj 1 0 obj 60 0 obj endobj 1 0 obj");
        int[] due = {60, 1, 60};
        for (int i : INTS) {
            CHECKS.same("13 twice(" + i + ")", i == -1 ? "3" : i >= 0 && i < 3 ? "" + due[i] : "IndexOutOfBoundsException",
                    Checks.outcome(() -> x.twice(i)));
        }
        Checks.feed(x, "60 0 obj endobj");
        x.scan();
        CHECKS.same("13 of the latest scan", 0, x.twice(-1));
        CHECKS.raises("13 of the latest scan", NO_INDEX, () -> x.twice(0));
    }

    /** Promise 15: "IndexOutOfBoundsException" below -1 and above the last byte. */
    private static void writtenOutOfBounds() {
        RepairScan x = Checks.scanned("%P\n7 0 obj \u00e9\0endobj");
        for (int i : INTS) {
            CHECKS.same("15 nothing was written, written(" + i + ")", i == -1 ? "0" : "IndexOutOfBoundsException",
                    Checks.outcome(() -> x.written(i)));
        }
        x.again();
        String due = "%P\n7 0 obj\n\u00e9\nendobj\n";
        for (int i = -1; i < due.length(); i++) {
            CHECKS.same("15 written(" + i + ")", i == -1 ? due.length() : due.charAt(i), x.written(i));
        }
        for (int i : INTS) {
            if (i < -1 || i >= due.length()) {
                CHECKS.raises("15 written(" + i + ")", NO_INDEX, () -> x.written(i));
            }
        }
        CHECKS.raises("15 behind the last", NO_INDEX, () -> x.written(due.length()));
    }

    /** Promises 5, 11, 13, 15: "i = -1: how many" (5: "any what"), of none, of one, of more. */
    private static void minusOneIsHowMany() {
        RepairScan x = Checks.scanned("%P\n1 0 obj<</Type/Catalog>>endobj trailer<</Root 1 0 R>>");
        CHECKS.same("5 no mend", 0, x.mended(-1, 0));
        CHECKS.same("13 none twice", 0, x.twice(-1));
        CHECKS.same("15 nothing written", 0, x.written(-1));
        Checks.feed(x, "%P\n1 0 obj endobj 1 0 obj<</Length 1>>stream\naendstream endobj");
        x.scan();
        for (int what : INTS) {
            CHECKS.same("5 two mends, any what: " + what, 2, x.mended(-1, what));
        }
        CHECKS.same("11 one byte", 1, x.stream(1, -1));
        CHECKS.same("13 one twice", 1, x.twice(-1));
        x.again();
        CHECKS.same("15 how many", "%P\n1 0 obj\n<< /Length 1 >> stream\na\nendstream\nendobj\n".length(), x.written(-1));
        Checks.feed(x, "1 0 obj<<>>stream\nendstream".repeat(3));
        x.scan();
        CHECKS.same("5 more mends", 1 + 3 + 3 + 2 + 1, x.mended(-1, Integer.MIN_VALUE));
        CHECKS.same("11 no byte", 0, x.stream(1, -1));
        CHECKS.same("13 more twice", 2, x.twice(-1));
    }

    /** Promise 6: "THE CATALOGUE; 0 when there is none." */
    private static void catalogueZeroWhenThereIsNone() {
        RepairScan x = Checks.scanned(FILE);
        CHECKS.same("6 one", 1, x.catalogue());
        for (String none : new String[] {"%P\n", "%P\n1 0 obj<</Type/Pages>>endobj trailer<</Root 1 0 R>>", "%P\n1 0 obj<</Type/Catalog>>",
            "%P\n1 0 obj<</Type/Catalog>>endobj 1 0 obj endobj trailer<</Root 1 0 R>>", "%P\ntrailer<</Root 1 0 R>>",
            "%P\n0 0 obj<</Type/Catalog>>endobj 61 0 obj<</Type/Catalog>>endobj trailer<</Root 61 0 R>>"}) {
            Checks.feed(x, none);
            x.scan();
            CHECKS.same("6 none in " + none, 0, x.catalogue());
        }
    }

    /** Promise 9: "The object that was CUT; 0 when none was." */
    private static void cutZeroWhenNoneWas() {
        RepairScan x = Checks.scanned(FILE);
        CHECKS.same("9 one", 5, x.cut());
        for (String none : new String[] {"%P\n", "%P\n1 0 obj endobj", "%P\n1 0 obj trailer", "%P\n1 0 obj<<>>stream\n", "%P\n61 0 obj", "%P\n0 0 obj"}) {
            Checks.feed(x, none);
            x.scan();
            CHECKS.same("9 none in " + none, 0, x.cut());
        }
        for (int number : new int[] {1, 60}) {
            Checks.feed(x, number + " 0 obj");
            CHECKS.same("9 objects beside the cut one", 0, x.scan());
            CHECKS.same("9 cut", number, x.cut());
        }
    }

    /** Promise 10: "0 when it has none such." */
    private static void trailerZeroWhenItHasNoneSuch() {
        RepairScan x = Checks.scanned(FILE);
        for (String none : new String[] {"%P\n", "trailer", "trailer<<", "trailer<<>>", "trailer<</Root/Size>>", "trailer<</Root 5/Size 5 0 R>>",
            "trailer<</Root 0 0 R/Size 1000000>>", "trailer<</Root[5 0 R]/Size(5)>>", "trailer[<</Root 5 0 R/Size 5>>]",
            "trailer<</A<</Root 5 0 R/Size 5>>>>", "trailer<<>>/Root 5 0 R/Size 5", "trailer 1<</Root 5 0 R/Size 5>>",
            "<</Root 5 0 R/Size 5>>", "trailers<</Root 5 0 R/Size 5>>", "trailer<</Root 1000000 0 R/Size -5>>"}) {
            Checks.feed(x, none);
            x.scan();
            CHECKS.same("10 no Root in " + none, 0, x.trailer(0));
            CHECKS.same("10 no Size in " + none, 0, x.trailer(1));
        }
        RepairScan y = Checks.scanned("trailer<</Root 1 0 R>>");
        CHECKS.same("10 Root alone", 1, y.trailer(0));
        CHECKS.same("10 Root alone", 0, y.trailer(1));
        Checks.feed(y, "trailer<</Size 1>>");
        y.scan();
        CHECKS.same("10 Size alone", 0, y.trailer(0));
        CHECKS.same("10 Size alone", 1, y.trailer(1));
        Checks.feed(y, "trailer<</Root 999999 0 R/Size 999999>>");
        y.scan();
        CHECKS.same("10 the greatest Root", 999999, y.trailer(0));
        CHECKS.same("10 the greatest Size", 999999, y.trailer(1));
    }

    /**
     * Promise 14: "(the first 3,000 bytes)". An object grows by 24 bytes at most (" /Length 100 ", blanks, ends), so 60
     * of them in 1,500 bytes stay below 3,000: the longest text that can be is written whole.
     */
    private static void theFirst3000Bytes() {
        StringBuilder file = new StringBuilder();
        StringBuilder due = new StringBuilder("%P\n");
        for (int i = 1; i <= 60; i++) {
            if (i <= 10) {
                file.append(i).append(" 0 obj)");
                due.append(i).append(" 0 obj\n)\nendobj\n");
            } else if (i < 60) {
                file.append(i).append(" 0 obj<<>>stream\nendstream");
                due.append(i).append(" 0 obj\n<< /Length 0 >> stream\n\nendstream\nendobj\n");
            }
        }
        String last = "60 0 obj<<" + "0".repeat(1500 - file.length() - 32) + "/Type/Catalog>>stream\n";
        file.append(last);
        due.append("60 0 obj\n<< /Length 0 ").append(last, "60 0 obj<<".length(), last.length() - "stream\n".length());
        due.append(" stream\n\nendstream\nendobj\n");
        due.append("trailer << /Root 60 0 R >>\n");
        CHECKS.same("14 the file is full", 1500, file.length());
        RepairScan x = Checks.scanned(file.toString());
        CHECKS.same("14 mends of the longest", 0, x.again());
        CHECKS.same("14 the longest", due.toString(), Checks.written(x));
        CHECKS.same("14 within 3,000", 1, due.length() > 2700 && due.length() <= 3000 ? 1 : 0);
    }

    /** Promise 14: "and that is scanned, aside": no answer but those of written changes. */
    private static void againIsAside() {
        RepairScan x = Checks.scanned(FILE);
        String before = Checks.answers(x, LAST);
        CHECKS.same("14 the mends that are left", 0, x.again());
        String after = Checks.answers(x, LAST);
        CHECKS.same("14 aside", before.substring(0, before.indexOf(" written ")), after.substring(0, after.indexOf(" written ")));
        Checks.feed(x, "%P\n9 0 obj");
        CHECKS.same("14 bytes that wait are not written", 0, x.again());
        CHECKS.same("14 bytes that wait are not written", after, Checks.answers(x, LAST));
        CHECKS.same("14 bytes that wait still wait", 0, x.scan());
        CHECKS.same("14 bytes that wait still wait", 9, x.cut());
        CHECKS.same("14 nothing but %P", 1, x.again());
        CHECKS.same("14 nothing but %P", "%P\n", Checks.written(x));
    }

    /** Promises 11, 15: "(0 .. 255)"; Terms: "BYTES (0 .. 255)". */
    private static void bytesAre0To255() {
        for (int b = 0; b < 256; b++) {
            RepairScan x = Checks.scanned("%P\n1 0 obj<</Length 1>>stream\n" + (char) b + "endstream endobj");
            CHECKS.same("11 byte " + b, b, x.stream(1, 0));
            x.again();
            CHECKS.same("15 byte " + b, b, x.written("%P\n1 0 obj\n<< /Length 1 >> stream\n".length()));
        }
    }

    /** Terms: "A call that throws changes nothing", with bytes that wait. */
    private static void aCallThatThrowsChangesNothing() {
        RepairScan x = Checks.scanned("%P\n1 0 obj<</A 9 0 R>>2 0 obj<<>>stream\nab");
        x.again();
        String before = Checks.answers(x, 2);
        Checks.feed(x, "%P\n3 0 ob");
        for (int i : new int[] {Integer.MIN_VALUE, -2, 1500, Integer.MAX_VALUE}) {
            CHECKS.raises("found(1, " + i + ")", NO_INDEX, () -> x.found(1, i));
            CHECKS.raises("found(" + i + ", 0)", NO_ELEMENT, () -> x.found(i, 0));
            CHECKS.raises("mended(" + i + ", 0)", NO_INDEX, () -> x.mended(i, 0));
            CHECKS.raises("mended(0, " + i + ")", NO_INDEX, () -> x.mended(0, i));
            CHECKS.raises("page(" + i + ")", NO_INDEX, () -> x.page(i));
            CHECKS.raises("trailer(" + i + ")", NO_INDEX, () -> x.trailer(i));
            CHECKS.raises("stream(" + i + ", 0)", NO_ELEMENT, () -> x.stream(i, 0));
            CHECKS.raises("stream(1, 0)", NO_ELEMENT, () -> x.stream(1, 0));
            CHECKS.raises("stream(2, " + i + ")", NO_INDEX, () -> x.stream(2, i));
            CHECKS.raises("whole(" + i + ")", NO_ELEMENT, () -> x.whole(i) ? 1 : 0);
            CHECKS.raises("twice(" + i + ")", NO_INDEX, () -> x.twice(i));
            CHECKS.raises("written(" + i + ")", NO_INDEX, () -> x.written(i));
        }
        CHECKS.same("a call that throws changes nothing", before, Checks.answers(x, 2));
        Checks.feed(x, "j endobj");
        CHECKS.same("nor the bytes that wait", 1, x.scan());
        CHECKS.same("nor the bytes that wait", 3, x.found(3, 0));
        RepairScan full = Checks.scanned("1 0 obj endobj");
        full.again();
        String scanned = Checks.answers(full, 2);
        Checks.feed(full, " ".repeat(1500));
        CHECKS.same("add throws", "UnsupportedOperationException", outcomeOfAdd(full, 0));
        CHECKS.same("an add that throws changes nothing", scanned, Checks.answers(full, 2));
    }

    /** Promise 5: "Of the latest scan", and so for all calls: each file behind each other one answers as on a new object. */
    private static void nothingOfAnEarlierScanIsLeft() {
        String[] files = {FILE, "%", "%P\n1 0 obj", "1 0 obj endobj 1 0 obj endobj", "1 0 obj<<>>endobj 2 0 obj<</Type/Pages>>endobj 1 0 obj<</Type/Catalog>>endobj",
            "1 0 obj<</Type/Catalog/Pages 2 0 R>>endobj 2 0 obj<</Type/Pages/Kids[3 0 R]>>endobj 3 0 obj<</Type/Page>>endobj trailer<</Root 1 0 R>>",
            "%P\n2 0 obj<</Type/Pages/Kids[1 0 R 3 0 R]>>endobj 3 0 obj<</Type/Page>>endobj 1 0 obj<</Type/Catalog>>endobj trailer<</Size 4>>",
            "%P\n1 0 obj<</Length 2/A 9 0 R>>stream\nabendstream endobj 2 0 obj<<>>stream\nendstream", "%P\n1 0 obj<<>>stream\nab endstream endobj 2 0 obj endobj",
            "%P\n1 0 obj endobj 2 0 obj endobj 3 0 obj endobj 60 0 obj endobj 1 0 obj<<", "%P\n1 0 obj<</Length 5/Length 6>>endobj 2 0 obj<</A/B>>stream\nendstreamendobj",
            "1 0 obj<<>>endobj", "1 0 obj<</A stream\nb endobj", "2 0 obj<</Type/Pages/Kids[2 0 R]>>endobj 1 0 obj<</Type/Catalog/Pages[2 0 R]>>endobj",
            "trailer<</Root 2 0 R", "trailer<</Root 2 0 ", "1 0 obj<</Length 3>>stream\nabc\nendstrea"};
        for (String earlier : files) {
            for (String later : files) {
                // Twice, for a class that keeps two rows and uses them in turn.
                RepairScan x = Checks.scanned(earlier);
                Checks.feed(x, earlier);
                x.scan();
                CHECKS.same("again of " + earlier, Checks.scanned(earlier).again(), x.again());
                Checks.feed(x, later);
                RepairScan fresh = Checks.scanned(later);
                CHECKS.same("scan of " + later + " behind " + earlier, count(fresh), x.scan());
                CHECKS.same("again of " + later + " behind " + earlier, fresh.again(), x.again());
                CHECKS.same(later + " behind " + earlier, Checks.answers(fresh, 3), Checks.answers(x, 3));
                CHECKS.same("written of " + later + " behind " + earlier, Checks.written(fresh), Checks.written(x));
            }
        }
    }

    private static int count(RepairScan x) {
        int count = 0;
        for (int i = 1; i <= 60; i++) {
            int object = i;
            count += Checks.outcome(() -> x.found(object, 0)).equals("NoSuchElementException") ? 0 : 1;
        }
        return count;
    }
}
