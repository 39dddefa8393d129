/** What the document's words in capitals mean, by files of which one thing is told each. */
public final class TermsTest {
    private static final Checks CHECKS = new Checks();

    public static void main(String[] args) {
        tokens();
        heads();
        ends();
        dictionaries();
        references();
        streams();
        kinds();
        writtenAnew();
        fullestFiles();
        nothingIsLeft();
        CHECKS.end("TermsTest");
    }

    private static void mends(String due, String file) {
        CHECKS.same("mends of " + file, due, Checks.mends(Checks.scanned(file)));
    }

    private static void references(int due, String text) {
        CHECKS.same("references of " + text, due, Checks.scanned("%P\n1 0 obj " + text + " endobj").found(1, 4));
    }

    private static void kind(int due, String text) {
        CHECKS.same("kind of " + text, due, Checks.scanned("%P\n1 0 obj " + text + " endobj").found(1, 3));
    }

    private static void anew(String due, String file) {
        RepairScan x = Checks.scanned(file);
        x.again();
        CHECKS.same("written anew of " + file, due, Checks.written(x));
    }

    private static void tokens() {
        mends("10@5 6@0", "%P\n%\n1 0 obj%x endobj");
        mends("6@0", "%P 1 0 obj");
        mends("6@0", "%P\n(1 0 obj)");
        mends("6@0", "%P\n(1 0 obj");
        mends("10@3 6@0", "%P\n1 0 obj(endobj");
        mends("6@0", "%P\n1 0 obj (() endobj");
        mends("10@3 6@0", "%P\n1 0 obj /endobj");
        mends("10@3 6@0", "%P\n1 0 obj xendobj endobjx endobj\u0080");
        mends("6@0", "%P\n1\0000\tobj<endobj>");
        mends("6@0", "%P\n1 0 obj{endobj}");
        mends("6@0", "%P\n1 0 obj)endobj");
        mends("6@0", "%P\n1%a\n0%b\nobj%c\nendobj");
    }

    private static void heads() {
        mends("6@0", "%P\n0 0 obj 61 0 obj");
        mends("10@3 6@0", "%P\n60 0 obj");
        mends("10@3 6@0", "%P\n000001 999999 obj");
        mends("6@0", "%P\n0000001 0 obj");
        mends("6@0", "%P\n1 1000000 obj");
        mends("6@0", "%P\n-1 0 obj +1 0 obj 1. 0 obj 1 0 objx");
        mends("10@7 6@0", "%P\n1 1 1 1 obj");
        mends("6@0", "%P\nendobj stream\nendstream R obj");
        mends("9@0 6@0", "%");
        mends("9@0 6@0", "%p\n");
        mends("9@0 6@0", " %P\n");
        mends("6@0", "%P");
    }

    private static void ends() {
        mends("1@11 6@0", "%P\n1 0 obj 2 0 obj endobj");
        mends("1@11 6@0", "%P\n1 0 obj trailer");
        mends("1@15 6@0", "%P\n1 0 obj<</A 2 0 obj>>endobj");
        mends("1@25 6@0", "%P\n1 0 obj<</A[(]trailer)trailer]>>endobj");
        mends("1@11 4@3 6@0", "%P\n1 0 obj 1 0 obj endobj");
        mends("4@3 6@0", "%P\n1 0 obj endobj 1 0 obj endobj");
        mends("4@3 4@18 6@0", "%P\n1 0 obj endobj 1 0 obj endobj 1 0 obj endobj");
        mends("3@36 2@36 4@3 6@0", "%P\n1 0 obj endobj 1 0 obj<<>>stream\nabc");
        RepairScan x = Checks.scanned("%P\n1 0 obj<</Type/Pageendobj/Type/Page endobj");
        CHECKS.same("a dictionary ends where the object does", 3, x.found(1, 3));
    }

    private static void dictionaries() {
        kind(3, "<</Type/Page>>");
        kind(3, " % a\n << /Type %b\n /Page >>");
        kind(0, "5<</Type/Page>>");
        kind(0, "[<</Type/Page>>]");
        kind(0, "< </Type/Page>>");
        kind(0, "<</A<</Type/Page>>>>");
        kind(0, "<</A[/Type/Page]>>");
        kind(0, "<</A/Type/Page>>");
        kind(3, "<<5 /Type/Page>>");
        kind(3, "<</Type/Page/Type>>");
        kind(3, "<</Type/Page/Type ");
        kind(0, "<</Type/Page/Type 5>>");
        kind(3, "<</Type/Catalog/Type/Page>>");
        kind(3, "<</A ]/Type/Page>>");
        kind(3, "<</A (>>)/Type/Page>>");
        kind(3, "<</A >/Type/Page>>");
        kind(0, "<</A >>/Type/Page>>");
        kind(3, "<</A[[]]/Type/Page>>");
        kind(0, "<</A[[]/Type/Page>>");
        kind(3, "<</A<<<<>>>>/Type/Page>>");
        kind(0, "<</A<<<<>>/Type/Page>>");
        kind(3, "<</A 1 0 R/Type/Page>>");
        kind(3, "<<[/Type/Page]>>");
        kind(3, "<<</Type/Page>>");
        kind(0, "<</Type (/Page)>>");
        kind(0, "<</Type /Pagex>>");
        kind(0, "<</Type [/Page]>>");
        kind(0, "<</type /Page>>");
    }

    private static void references() {
        references(1, "<</A 1 0 R>>");
        references(3, "<</A 1 0 R/A 1 0 R/Length 1 0 R>>");
        references(0, "<<1 0 R>>");
        references(0, "<</A 1 1 0 R>>");
        references(1, "<</A[1 1 0 R]>>");
        references(2, "<</A<<1 0 R/B[1 0 R]>>>>");
        references(0, "<</A(1 0 R)>>");
        references(0, "<</A[1 0 Rx 1 0 (R) 1 0 r]>>");
        references(1, "<</A 0000001 0 R/B[0000001 0 R 000001 0 R]>>");
        references(0, "<<>>/A 1 0 R ");
        references(0, "[1 0 R]");
        references(2, "<</A[1 0 R>>1 0 R ");
        mends("5@50 5@3 5@3 5@3 6@0", "%P\n2 0 obj<</A 0 0 R/B 61 0 R/C 3 0 R/D 3>>endobj 1 0 obj<</A[9 0 R 1 0 R 2 0 R]>>endobj");
    }

    private static void stream(String due, String dueMends, String file) {
        RepairScan x = Checks.scanned("%P\n1 0 obj" + file);
        CHECKS.same("data of " + file, due, Checks.data(x, 1));
        CHECKS.same("mends of " + file, dueMends, Checks.mends(x));
    }

    private static void streams() {
        stream("abc", "6@0", "<</Length 3>>stream\nabcendstreamendobj");
        stream("abc", "6@0", "<</Length 3>>%x\n stream\nabc\nendstream endobj");
        stream("abc\n", "6@0", "<</Length 4>>stream\nabc\nendstreamx endobj");
        stream("endstream", "6@0", "<</Length 9>>stream\nendstreamendstream endobj");
        stream("abc", "3@31 6@0", "<</Length 5 >>stream\nabc\nendstream endobj");
        stream("abc\n", "3@30 6@0", "<</Length 3>>stream\nabc\n\nendstream endobj");
        stream("abc", "3@35 6@0", "<</Length 1 0 R>> stream\nabcendstream endobj");
        stream("", "3@21 6@0", "<<>>stream\n\nendstream endobj");
        stream("", "3@21 6@0", "<<>>stream\nendstream endobj");
        stream("1 0 obj endobj trailer", "3@21 6@0", "<<>>stream\n1 0 obj endobj trailerendstream endobj");
        stream("ab\n", "3@21 2@21 6@0", "<<>>stream\nab\n");
        stream("", "3@21 2@21 6@0", "<<>>stream\n");
        stream("ab", "3@35 2@35 6@0", "<</Length 999999>>stream\nab");
        stream("abc", "1@43 6@0", "<</Length 3>>stream\nabc\nendstream");
        stream("abc", "1@44 6@0", "<</Length 3>>stream\nabc\nendstream trailer");
        stream("abc", "6@0", "<</Length 9/Length 3>>stream\nabc\nendstream endobj");
        stream("abc", "6@0", "<</Length 3/Length>>stream\nabc\nendstream endobj");
        for (String none : new String[] {"<<>>stream endobj", "<<>>stream\r\nendobj", "<<>>x stream\nendobj", "stream\nendobj",
            "[<<>>stream\n]endobj", "<<>>streams\nendobj", "<</A<<>>stream\nendobj", "<<>>endobj stream\n"}) {
            CHECKS.raises("no stream " + none, java.util.NoSuchElementException.class,
                    () -> Checks.scanned("%P\n1 0 obj" + none).stream(1, -1));
        }
        CHECKS.same("an end behind no endstream", 24, Checks.scanned("%P\n1 0 obj<<>>stream\nabc").found(1, 2));
        CHECKS.same("an end behind endstream", 33, Checks.scanned("%P\n1 0 obj<<>>stream\nabcendstream").found(1, 2));
        mends("3@21 2@21 6@0", "%P\n1 0 obj<<>>stream\nends tream endobj 2 0 obj endobj");
    }

    private static void kinds() {
        kind(1, "<</Type/Catalog>>");
        kind(2, "<</Type/Pages>>");
        kind(3, "<</Type/Page>>");
        kind(0, "<</Type/Other>>");
        kind(0, "");
        CHECKS.same("a stream has a kind too", 3,
                Checks.scanned("1 0 obj<</Type/Page>>stream\nendstream endobj").found(1, 3));
    }

    private static void writtenAnew() {
        anew("%P\n2 0 obj\n\nendobj\n", "2 0 obj endobj");
        anew("%P\n2 0 obj\n5 %a\nendobj\n10 0 obj\n(b )\nendobj\n", "10 0 obj\0(b )\t\nendobj 2 1 obj\n5 %a\nendobj");
        anew("%P\n1 0 obj\n<</A null/B[1 0 R null<<null>>]/C(9 0 R)9 0 R>>9 0 R\nendobj\n",
                "1 0 obj<</A 9 0 R/B[1 0 R 0 0 R<<99%\n0 R>>]/C(9 0 R)9 0 R>>9 0 R endobj");
        anew("%P\n1 0 obj\n<< /Length 3 /A null/B 1 0 R >> stream\nabc\nendstream\nendobj\n",
                "1 0 obj <</Length 9 0 R/A 9 0 R/B 1 0 R /Length 7>>\nstream\nabc\nendstream garbage endobj");
        anew("%P\n1 0 obj\n<< /Length 0 /A<</Length 5>>/Length>> stream\n\nendstream\nendobj\n",
                "1 0 obj<</A<</Length 5>>/Length>>stream\nendstream endobj");
        anew("%P\n1 0 obj\n<< /Length 12  >> stream\n9 0 R\nendobj\nendstream\nendobj\n",
                "1 0 obj<</Length[/Length 9 0 R] >>stream\n9 0 R\nendobj");
        anew("%P\n1 0 obj\n<</Length null>>\nendobj\n", "1 0 obj<</Length 9 0 R>>endobj");
        anew("%P\n12 0 obj\n<</Type/Catalog>>\nendobj\ntrailer << /Root 12 0 R >>\n", "12 0 obj<</Type/Catalog>>endobj");
        anew("%P\n1 0 obj\n<</A[1 0 R\nendobj\n", "1 0 obj<</A[1 0 R 2 0 obj");
    }

    /** As many mends, references, repeated numbers and pairs as 1,500 bytes can hold, several times on one object. */
    private static void fullestFiles() {
        RepairScan x = new RepairScan();
        for (int time = 0; time < 5; time++) {
            Checks.feed(x, "1 0 obj)".repeat(187));
            CHECKS.same("repeats: objects", 1, x.scan());
            CHECKS.same("repeats: mends", 1 + 186 + 185 + 1 + 1, x.mended(-1, 0));
            CHECKS.same("repeats: twice", 185, x.twice(-1));
            Checks.feed(x, "1 0 obj<</A[" + "0 0 R ".repeat(246) + "endobj");
            x.scan();
            CHECKS.same("references", 246, x.found(1, 4));
            CHECKS.same("references: mends", 1 + 246 + 1, x.mended(-1, 0));
            CHECKS.same("references: again", 1, x.again());
            CHECKS.same("references: written", 3 + 8 + 5 + 246 * 5 - 1 + 8, x.written(-1));
            Checks.feed(x, "1 0 obj<<" + "/Length/".repeat(180) + ">>stream\nendstream");
            x.scan();
            CHECKS.same("lengths", 0, x.stream(1, -1));
            x.again();
            CHECKS.same("lengths: written", "%P\n1 0 obj\n<< /Length 0 >> stream\n\nendstream\nendobj\n", Checks.written(x));
            Checks.feed(x, "trailer<<".repeat(30) + "/A[" + "0 0 R ".repeat(100) + "]/Length/".repeat(30) + " 1 0 obj<</Length/B[0 0 R]/B 0 0 R");
            Checks.feed(x, " >>stream\nendstream");
            x.scan();
            CHECKS.same("trailers", 1, x.found(1, 4));
            x.again();
            CHECKS.same("trailers: written", "%P\n1 0 obj\n<< /Length 0 [0 0 R]/B null >> stream\n\nendstream\nendobj\n", Checks.written(x));
            StringBuilder streams = new StringBuilder();
            for (int i = 1; i <= 53; i++) {
                streams.append(i).append(" 0 obj<<>>stream\nendstream");
            }
            Checks.feed(x, streams.toString());
            CHECKS.same("streams", 53, x.scan());
            CHECKS.same("streams: mends", 1 + 53 + 53 + 1, x.mended(-1, 0));
            CHECKS.same("streams: again", 1, x.again());
        }
    }

    /** A node without kids has none, though an earlier scan found some for it. */
    private static void nothingIsLeft() {
        String top = "%P\n60 0 obj<</Type/Catalog/Pages 2 0 R>>endobj 3 0 obj<</Type/Page>>endobj 2 0 obj<</Type/Pages/";
        RepairScan x = new RepairScan();
        for (int time = 0; time < 12; time++) {
            Checks.feed(x, top + (time / 4 % 2 == 0 ? "Kids" : "Sons") + "[3 0 R]>>endobj");
            x.scan();
            CHECKS.same("mends of time " + time, time / 4 % 2 == 0 ? "6@0 7@3" : "6@0 7@3 8@0", Checks.mends(x));
            CHECKS.same("catalogue of time " + time, 60, x.catalogue());
        }
    }
}
