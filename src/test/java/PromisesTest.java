import java.util.NoSuchElementException;

/** What each call answers, changes and throws: a method for each promise of the document. */
public final class PromisesTest {
    private static final Checks CHECKS = new Checks();
    private static final String FILE =
            "%P\n1 0 obj\n<< /Type /Catalog /Pages 2 0 R >>\nendobj\n2 0 obj <</Type/Pages/Kids[4 0 R 3 0 R]>> endobj\n"
            + "3 0 obj<</Type /Page>>endobj\n4 0 obj << /Type /Page /Contents 5 0 R >> endobj\n"
            + "5 0 obj <</Length 4>> stream\na\0\u00ffb\nendstream endobj\ntrailer << /Root 1 0 R /Size 6 >>\n";

    public static void main(String[] args) {
        promise1New();
        promise2Add();
        promise3Scan();
        promise4Found();
        promise5Mended();
        promise6Catalogue();
        promise7And8Pages();
        promise9Cut();
        promise10Trailer();
        promise11Stream();
        promise12Whole();
        promise13Twice();
        promise14Again();
        promise15Written();
        CHECKS.end("PromisesTest");
    }

    private static void promise1New() {
        RepairScan x = new RepairScan();
        CHECKS.raises("1 found", NoSuchElementException.class, () -> x.found(1, 0));
        CHECKS.same("1 mended", 0, x.mended(-1, 0));
        CHECKS.raises("1 mended(0, 0)", IndexOutOfBoundsException.class, () -> x.mended(0, 0));
        CHECKS.same("1 catalogue", 0, x.catalogue());
        CHECKS.same("1 pages", 0, x.pages());
        CHECKS.raises("1 page", IndexOutOfBoundsException.class, () -> x.page(0));
        CHECKS.same("1 cut", 0, x.cut());
        CHECKS.same("1 trailer(0)", 0, x.trailer(0));
        CHECKS.same("1 trailer(1)", 0, x.trailer(1));
        CHECKS.raises("1 stream", NoSuchElementException.class, () -> x.stream(1, -1));
        CHECKS.raises("1 whole", NoSuchElementException.class, () -> x.whole(1) ? 1 : 0);
        CHECKS.same("1 twice", 0, x.twice(-1));
        CHECKS.raises("1 twice(0)", IndexOutOfBoundsException.class, () -> x.twice(0));
        CHECKS.same("1 written", 0, x.written(-1));
        CHECKS.same("1 again", 0, x.again());
        CHECKS.same("1 written after again", 0, x.written(-1));
        CHECKS.raises("1 scan", IllegalStateException.class, x::scan);
        RepairScan other = Checks.scanned(FILE);
        CHECKS.same("1 another object", 0, x.pages());
        CHECKS.same("1 the other object", 2, other.pages());
    }

    private static void promise2Add() {
        RepairScan x = new RepairScan();
        Checks.feed(x, "1 0 obj endobj ".repeat(100));
        for (int i = 0; i < 2; i++) {
            CHECKS.raises("2 add 1,501", UnsupportedOperationException.class, () -> {
                x.add((byte) 48);
                return 0;
            });
        }
        CHECKS.same("2 scan of 1,500", 1, x.scan());
        CHECKS.same("2 all bytes are there", 1485, x.found(1, 0));
        CHECKS.same("2 twice", 99, x.twice(-1));
        RepairScan y = Checks.scanned("%P\n1 0 obj<</Length 256>>stream\n" + allBytes() + "\nendstream endobj");
        CHECKS.same("2 all kinds of bytes", allBytes(), Checks.data(y, 1));
        Checks.feed(y, "%P\n2 0 obj endobj");
        CHECKS.same("2 add changes nothing scanned", allBytes(), Checks.data(y, 1));
        CHECKS.raises("2 nothing scanned of it", NoSuchElementException.class, () -> y.found(2, 0));
    }

    private static String allBytes() {
        StringBuilder all = new StringBuilder();
        for (char c = 0; c < 256; c++) {
            all.append(c);
        }
        return all.toString();
    }

    private static void promise3Scan() {
        RepairScan x = new RepairScan();
        CHECKS.raises("3 scan of nothing", IllegalStateException.class, x::scan);
        Checks.feed(x, FILE);
        CHECKS.same("3 scan", 5, x.scan());
        x.again();
        int size = x.written(-1);
        CHECKS.raises("3 the bytes were taken", IllegalStateException.class, x::scan);
        CHECKS.same("3 all is as it was: pages", 2, x.pages());
        CHECKS.same("3 all is as it was: stream", 4, x.stream(5, -1));
        Checks.feed(x, "7 0 obj endobj");
        CHECKS.same("3 the next scan", 1, x.scan());
        CHECKS.same("3 its mends", "9@0 6@0", Checks.mends(x));
        CHECKS.same("3 its place", 0, x.found(7, 0));
        CHECKS.raises("3 the earlier ones are gone", NoSuchElementException.class, () -> x.found(5, 0));
        CHECKS.same("3 pages are gone", 0, x.pages());
        CHECKS.same("3 trailer is gone", 0, x.trailer(0) + x.trailer(1));
        CHECKS.same("3 what was written stays", size, x.written(-1));
        Checks.feed(x, "%P\n");
        CHECKS.same("3 a third scan has its own bytes alone", 0, x.scan());
        CHECKS.same("3 a third scan", "6@0", Checks.mends(x));
        Checks.feed(x, FILE);
        CHECKS.same("3 a fourth scan", 5, x.scan());
        CHECKS.same("3 a fourth scan", "4 3", Checks.pages(x));
        RepairScan y = new RepairScan();
        Checks.feed(y, " ");
        CHECKS.same("3 scan without objects", 0, y.scan());
        CHECKS.same("3 its mends", "9@0 6@0", Checks.mends(y));
    }

    private static void promise4Found() {
        RepairScan x = Checks.scanned(FILE);
        long[][] due = {{1, 3, 10, 45, 1, 1}, {2, 52, 59, 94, 2, 2}, {3, 101, 108, 123, 3, 0}, {4, 130, 137, 172, 3, 1}, {5, 179, 186, 223, 0, 0}};
        for (long[] row : due) {
            for (int what = 0; what < 5; what++) {
                CHECKS.same("4 found(" + row[0] + ", " + what + ")", row[what + 1], x.found((int) row[0], what));
            }
        }
        for (int what : new int[] {-1, 5, Integer.MIN_VALUE, Integer.MAX_VALUE}) {
            CHECKS.raises("4 what " + what, IndexOutOfBoundsException.class, () -> x.found(1, what));
            CHECKS.raises("4 both wrong " + what, NoSuchElementException.class, () -> x.found(6, what));
        }
        for (int object : new int[] {0, -1, 6, 60, 61, Integer.MIN_VALUE, Integer.MAX_VALUE}) {
            CHECKS.raises("4 object " + object, NoSuchElementException.class, () -> x.found(object, 0));
        }
        RepairScan last = Checks.scanned("60 0 obj<</Type/Page/A 8 0 R>>endobj");
        CHECKS.same("4 object 60", 1, last.found(60, 4));
        CHECKS.same("4 object 60", "9@0 5@0 6@0 8@0", Checks.mends(last));
        CHECKS.same("4 object 60", "60", Checks.pages(last));
        last.again();
        CHECKS.same("4 object 60", "%P\n60 0 obj\n<</Type/Page/A null>>\nendobj\n", Checks.written(last));
        RepairScan y = Checks.scanned("%P\n1 0 obj 5 2 0 obj 6 trailer");
        CHECKS.same("4 ends at the next head", 13, y.found(1, 2));
        CHECKS.same("4 ends at trailer", 23, y.found(2, 2));
    }

    private static void promise5Mended() {
        RepairScan x = Checks.scanned("1 0 obj<</Type/Page/A 8 0 R>>2 0 obj");
        CHECKS.same("5 all", "9@0 1@29 10@29 5@0 6@0 8@0", Checks.mends(x));
        CHECKS.same("5 count", 6, x.mended(-1, 0));
        CHECKS.same("5 count, any what", 6, x.mended(-1, Integer.MAX_VALUE));
        CHECKS.same("5 count, any what", 6, x.mended(-1, -7));
        CHECKS.same("5 number", 1, x.mended(1, 0));
        CHECKS.same("5 place", 29, x.mended(1, 1));
        for (int i : new int[] {-2, 6, Integer.MIN_VALUE, Integer.MAX_VALUE}) {
            CHECKS.raises("5 i " + i, IndexOutOfBoundsException.class, () -> x.mended(i, 0));
        }
        for (int what : new int[] {-1, 2, Integer.MIN_VALUE, Integer.MAX_VALUE}) {
            CHECKS.raises("5 what " + what, IndexOutOfBoundsException.class, () -> x.mended(0, what));
        }
        x.again();
        CHECKS.same("5 of the latest scan, not of again", 6, x.mended(-1, 0));
        CHECKS.same("5 a whole file", "", Checks.mends(Checks.scanned(FILE)));
    }

    private static void promise6Catalogue() {
        CHECKS.same("6 by the trailer", 1, Checks.scanned(FILE).catalogue());
        RepairScan none = Checks.scanned("%P\n1 0 obj<</Type/Page>>endobj");
        CHECKS.same("6 none", 0, none.catalogue());
        CHECKS.same("6 none: mends", "6@0 8@0", Checks.mends(none));
        String two = "%P\n2 0 obj<</Type/Catalog>>endobj 1 0 obj<</Type/Catalog>>endobj ";
        RepairScan last = Checks.scanned(two);
        CHECKS.same("6 the one whose head comes last", 1, last.catalogue());
        CHECKS.same("6 its mends", "6@0 7@34", Checks.mends(last));
        CHECKS.same("6 Root", 2, Checks.scanned(two + "trailer<</Root 2 0 R>>").catalogue());
        RepairScan pages = Checks.scanned("%P\n3 0 obj<</Type/Catalog/Pages 4 0 R>>endobj 4 0 obj<</Type/Pages>>endobj "
                + "5 0 obj<</Type/Catalog/Pages[4 0 R]>>endobj trailer<</Root 4 0 R>>");
        CHECKS.same("6 one with Pages of kind 2 first", 3, pages.catalogue());
        CHECKS.same("6 its mends", "6@0 7@3", Checks.mends(pages));
        CHECKS.same("6 Root without Pages will do", 5, Checks.scanned("%P\n3 0 obj<</Type/Catalog/Pages 4 0 R>>endobj "
                + "4 0 obj<</Type/Pages>>endobj 5 0 obj<</Type/Catalog>>endobj trailer<</Root 5 0 R>>").catalogue());
    }

    private static void promise7And8Pages() {
        RepairScan x = Checks.scanned(FILE);
        CHECKS.same("7 pages", 2, x.pages());
        CHECKS.same("8 page 0", 4, x.page(0));
        CHECKS.same("8 page 1", 3, x.page(1));
        for (int i : new int[] {-1, 2, Integer.MIN_VALUE, Integer.MAX_VALUE}) {
            CHECKS.raises("8 page " + i, IndexOutOfBoundsException.class, () -> x.page(i));
        }
        String top = "%P\n1 0 obj<</Type/Catalog/Pages 2 0 R>>endobj trailer<</Root 1 0 R>>";
        RepairScan tree = Checks.scanned(top + "2 0 obj<</Type/Pages/Kids[5 0 R<</A[6 0 R]>>3 0 R 5 0 R 2 0 R]>>endobj "
                + "6 0 obj<</Type/Pages/Kids 4 0 R>>endobj 3 0 obj<</Type/Page>>4 0 obj<</Type/Page>>5 0 obj<</Type/Page>>endobj");
        CHECKS.same("7 in place of a node, each once", "5 4 3", Checks.pages(tree));
        RepairScan lost = Checks.scanned(top + "2 0 obj<</Type/Pages/Kids[5 0 R]>>endobj "
                + "5 0 obj<</Type/Page>>endobj 4 0 obj<</Type/Page>>endobj");
        CHECKS.same("7 all by their numbers", "4 5", Checks.pages(lost));
        CHECKS.same("7 then mend 8", "8@0", Checks.mends(lost));
        RepairScan none = Checks.scanned(top + "2 0 obj<</Type/Pages/Kids[5 0 R]/Kids 9>>endobj 5 0 obj<<>>endobj");
        CHECKS.same("7 none", "", Checks.pages(none));
        CHECKS.same("7 none, no mend", "", Checks.mends(none));
        StringBuilder deep = new StringBuilder("%P\n1 0 obj<</Type/Catalog/Pages 2 0 R>>");
        for (int i = 2; i < 43; i++) {
            deep.append(i).append(" 0 obj<</Type/Pages/Kids ").append(i + 1).append(" 0 R ");
        }
        CHECKS.same("7 a deep tree", "43", Checks.pages(Checks.scanned(deep + "43 0 obj<</Type/Page trailer<</Root 1 0 R>>")));
    }

    private static void promise9Cut() {
        CHECKS.same("9 none", 0, Checks.scanned(FILE).cut());
        RepairScan x = Checks.scanned("%P\n1 0 obj 5 endobj 1 0 obj 6");
        CHECKS.same("9 cut", 1, x.cut());
        CHECKS.same("9 the earlier one is there", 3, x.found(1, 0));
        CHECKS.same("9 it does not count", 0, x.twice(-1));
        CHECKS.same("9 mends", "10@20 6@0", Checks.mends(x));
        RepairScan y = Checks.scanned("%P\n1 0 obj<<>>stream\nendstream");
        CHECKS.same("9 not with a stream", 0, y.cut());
        CHECKS.same("9 which ends there", "3@21 1@30 6@0", Checks.mends(y));
        RepairScan z = Checks.scanned("%P\n44 0 obj");
        CHECKS.same("9 a head alone", 44, z.cut());
        Checks.feed(z, "%P\n");
        z.scan();
        CHECKS.same("9 of the latest scan", 0, z.cut());
    }

    private static void promise10Trailer() {
        RepairScan x = Checks.scanned(FILE);
        CHECKS.same("10 Root", 1, x.trailer(0));
        CHECKS.same("10 Size", 6, x.trailer(1));
        for (int key : new int[] {-1, 2, Integer.MIN_VALUE, Integer.MAX_VALUE}) {
            CHECKS.raises("10 key " + key, IndexOutOfBoundsException.class, () -> x.trailer(key));
        }
        RepairScan y = Checks.scanned("%P\ntrailer<</Root 7 0 R/Size 3>>trailer<</Root 0 0 R/Size 4 0 R>>trailer[<</Root 8 0 R>>]");
        CHECKS.same("10 the later ones that are such", 7, y.trailer(0));
        CHECKS.same("10 the later ones that are such", 3, y.trailer(1));
        RepairScan z = Checks.scanned("%P\ntrailer<</Root 1 0 R/Size 3>>1 0 obj trailer<</Root 99 0 R/Size 0");
        CHECKS.same("10 behind a trailer that ends an object, up to the end of all", 99, z.trailer(0));
        CHECKS.same("10 Size 0", 0, z.trailer(1));
        CHECKS.same("10 mends", "1@40 6@0", Checks.mends(z));
        RepairScan heads = Checks.scanned("%P\ntrailer<</Root 2 0 obj 5 endobj /Root 3 0 R>>");
        CHECKS.same("10 gone through for heads all the same", 18, heads.found(2, 0));
        CHECKS.same("10 the pairs go on", 3, heads.trailer(0));
        CHECKS.same("10 equal names", 0, Checks.scanned("trailer<</Root 3 0 R/Root 3>>").trailer(0));
    }

    private static void promise11Stream() {
        RepairScan x = Checks.scanned(FILE);
        CHECKS.same("11 how many", 4, x.stream(5, -1));
        CHECKS.same("11 bytes 0 .. 255", "a\0\u00ffb", Checks.data(x, 5));
        for (int i : new int[] {-2, 4, Integer.MIN_VALUE, Integer.MAX_VALUE}) {
            CHECKS.raises("11 i " + i, IndexOutOfBoundsException.class, () -> x.stream(5, i));
            CHECKS.raises("11 no stream " + i, NoSuchElementException.class, () -> x.stream(4, i));
            CHECKS.raises("11 no object " + i, NoSuchElementException.class, () -> x.stream(6, i));
        }
        RepairScan empty = Checks.scanned("1 0 obj<</Length 0>>stream\nendstream endobj");
        CHECKS.same("11 none", 0, empty.stream(1, -1));
        CHECKS.raises("11 none of none", IndexOutOfBoundsException.class, () -> empty.stream(1, 0));
    }

    private static void promise12Whole() {
        RepairScan x = Checks.scanned(FILE);
        for (int i = 1; i <= 5; i++) {
            CHECKS.holds("12 whole " + i, x.whole(i));
        }
        CHECKS.raises("12 no object", NoSuchElementException.class, () -> x.whole(6) ? 1 : 0);
        CHECKS.raises("12 no object", NoSuchElementException.class, () -> x.whole(-1) ? 1 : 0);
        RepairScan y = Checks.scanned("1 0 obj 2 0 obj<</Length 3>>stream\nab\nendstream endobj "
                + "3 0 obj<</Length 2>>stream\nab\nendstream 4 0 obj<<endobj trailer");
        CHECKS.holds("12 ended by a head", !y.whole(1));
        CHECKS.holds("12 a length that counts the byte 10", y.whole(2));
        CHECKS.holds("12 not ended", !y.whole(3));
        CHECKS.holds("12 ended by endobj, whatever it holds", y.whole(4));
        CHECKS.holds("12 ended by nothing", !Checks.scanned("1 0 obj<</Length 2>>stream\nab").whole(1));
        CHECKS.holds("12 Length 0", Checks.scanned("1 0 obj<</Length 0>>stream\nendstream endobj").whole(1));
        CHECKS.holds("12 ended by a word", !Checks.scanned("1 0 obj<</Length 9>>stream\nab\nendstream endobj").whole(1));
    }

    private static void promise13Twice() {
        RepairScan x = Checks.scanned("%P\n1 0 obj endobj 2 0 obj endobj 2 0 obj endobj 1 0 obj 2 0 obj endobj 1 0 obj");
        CHECKS.same("13 in order, each time", "2 1 2", Checks.twice(x));
        CHECKS.same("13 mends", "4@18 1@56 4@3 4@33 10@71 6@0", Checks.mends(x));
        for (int i : new int[] {-2, 3, Integer.MIN_VALUE, Integer.MAX_VALUE}) {
            CHECKS.raises("13 i " + i, IndexOutOfBoundsException.class, () -> x.twice(i));
        }
        CHECKS.same("13 the last one is there", 48, x.found(1, 0));
        CHECKS.same("13 none", 0, Checks.scanned(FILE).twice(-1));
    }

    private static void promise14Again() {
        RepairScan x = Checks.scanned(FILE);
        CHECKS.same("14 a whole file", 0, x.again());
        RepairScan y = Checks.scanned("1 0 obj<</Type/Catalog/Pages 2 0 R");
        CHECKS.same("14 nothing but the header", 1, y.again());
        CHECKS.same("14 nothing but the header", "%P\n", Checks.written(y));
        RepairScan z = Checks.scanned("%P\n1 0 obj<</A 9 0 R>>endobj 2 0 obj<</Type/Page>>3 0 obj");
        CHECKS.same("14 mends that stay: 6 and 8", 2, z.again());
        CHECKS.same("14 aside", "1@50 10@50 5@3 6@0 8@0", Checks.mends(z));
        CHECKS.same("14 aside", 3, z.found(1, 0));
        CHECKS.same("14 aside", 3, z.cut());
        CHECKS.same("14 once more", 2, z.again());
    }

    private static void promise15Written() {
        RepairScan x = Checks.scanned("%P\n3 0 obj<<>>endobj 1 0 obj (\u00ff) endobj");
        CHECKS.same("15 nothing before again", 0, x.written(-1));
        CHECKS.raises("15 nothing before again", IndexOutOfBoundsException.class, () -> x.written(0));
        x.again();
        CHECKS.same("15 all", "%P\n1 0 obj\n(\u00ff)\nendobj\n3 0 obj\n<<>>\nendobj\n", Checks.written(x));
        CHECKS.same("15 how many", 42, x.written(-1));
        CHECKS.same("15 a byte above 127", 255, x.written(12));
        for (int i : new int[] {-2, 42, Integer.MIN_VALUE, Integer.MAX_VALUE}) {
            CHECKS.raises("15 i " + i, IndexOutOfBoundsException.class, () -> x.written(i));
        }
        Checks.feed(x, "%P\n");
        x.scan();
        CHECKS.same("15 what was written last", 42, x.written(-1));
        x.again();
        CHECKS.same("15 what was written last", 3, x.written(-1));
    }
}
