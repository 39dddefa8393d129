/** Sentences of the document that speak of two terms at once: each has its own method. */
public final class TermsTogetherTest {
    private static final Checks CHECKS = new Checks();
    private static String says = "";

    public static void main(String[] args) {
        whatIsNoName();
        withinBrackets();
        equalNames();
        whereTheObjectEnds();
        aTrailerWithinAnObject();
        headsBehindTheWordTrailer();
        endsAndEqualNumbers();
        nullForItsReferencesAlone();
        lengthPairs();
        referencesWithinData();
        CHECKS.end("TermsTogetherTest");
    }

    private static String label(String file) {
        return says + " <" + file.replace("\n", "\\n") + ">: ";
    }

    private static void mends(String due, String file) {
        CHECKS.same(label(file) + "mends", due, Checks.mends(Checks.scanned(file)));
    }

    private static void anew(String due, String file) {
        RepairScan x = Checks.scanned(file);
        x.again();
        CHECKS.same(label(file) + "written", "%P\n" + due, Checks.written(x));
    }

    /** The kind of object 1 and how many references it has. */
    private static void tells(int dueKind, int dueReferences, String file) {
        RepairScan x = Checks.scanned(file);
        CHECKS.same(label(file) + "kind", dueKind, x.found(1, 3));
        CHECKS.same(label(file) + "references", dueReferences, x.found(1, 4));
    }

    private static void endsAt(int due, int object, String file) {
        CHECKS.same(label(file) + "end of " + object, due, Checks.scanned(file).found(object, 2));
    }

    private static void pages(String due, String file) {
        CHECKS.same(label(file) + "pages", due, Checks.pages(Checks.scanned(file)));
    }

    private static void trailer(int dueRoot, int dueSize, String file) {
        RepairScan x = Checks.scanned(file);
        CHECKS.same(label(file) + "Root", dueRoot, x.trailer(0));
        CHECKS.same(label(file) + "Size", dueSize, x.trailer(1));
    }

    private static void data(String due, String file) {
        CHECKS.same(label(file) + "data", due, Checks.data(Checks.scanned(file), 1));
    }

    private static void whatIsNoName() {
        says = "What is not a name where a name must be is passed (references there are none of its)";
        mends("6@0", "%P\n1 0 obj<<9 0 R/A 5 9 0 R>>endobj");
        anew("1 0 obj\n<<9 0 R/A 5 9 0 R>>\nendobj\n", "1 0 obj<<9 0 R/A 5 9 0 R>>endobj");
        tells(2, 0, "1 0 obj<</Type/Pages[3 0 R 4 0 R]>>endobj");
        tells(0, 1, "1 0 obj<</A 9 0 R 8 0 R/B/C 8 0 R[8 0 R](a)8 0 R>>endobj");
        mends("5@3 6@0", "%P\n1 0 obj<</A 9 0 R 8 0 R/B/C 8 0 R[8 0 R](a)8 0 R>>endobj");
        anew("1 0 obj\n<</A null 8 0 R/B/C 8 0 R[8 0 R](a)8 0 R>>\nendobj\n", "1 0 obj<</A 9 0 R 8 0 R/B/C 8 0 R[8 0 R](a)8 0 R>>endobj");
        String tree = "%P\n1 0 obj<</Type/Catalog/Pages 2 0 R>>endobj 2 0 obj<</Type/Pages/Kids 4 0 R 3 0 R>>endobj "
                + "3 0 obj<</A 5>>endobj 4 0 obj<</Type/Page>>endobj trailer<</Root 1 0 R>>";
        mends("", tree);
        pages("4", tree);
        mends("8@0", tree.replace("Kids 4 0 R 3 0 R", "Kids 3 0 R 4 0 R"));
        mends("8@0", tree.replace("Pages 2 0 R", "Pages 5 2 0 R"));
        trailer(0, 5, "trailer<</Root 1 1 0 R/Size 5 5 0 R>>");
        trailer(2, 0, "trailer<<1 0 R/Root 2 0 R 3 0 R/Size 5 0 R>>");
        data("ab", "1 0 obj<</Length 2 0 0 R>>stream\nabendstream endobj");
        mends("6@0", "%P\n1 0 obj<</Length 2 0 0 R>>stream\nabendstream endobj");
        anew("1 0 obj\n<< /Length 2  0 0 R>> stream\nab\nendstream\nendobj\n", "1 0 obj<</Length 2 0 0 R>>stream\nabendstream endobj");
    }

    private static void withinBrackets() {
        says = "[ and all up to its ] (one within the other); << and all up to its >> likewise";
        data("ab", "1 0 obj<</A[>>]/Length 2>>stream\nabendstream endobj");
        data("ab", "1 0 obj<</A[[>>]>>]/Length 2>>stream\nabendstream endobj");
        data("ab", "1 0 obj<</A<<<<>>/Length 9>>/Length 2>>stream\nabendstream endobj");
        tells(0, 3, "1 0 obj<</A[1 0 R>>/Type/Page/B 2 0 R 3 0 R endobj");
        mends("9@0 10@0 6@0", "1 0 obj<</A[1 0 R>>stream\nabendstream");
        tells(3, 4, "1 0 obj<</A[[1 0 R]<<2 0 R>>3 0 R]/Type/Page/B[[4 0 R]]>>endobj");
        mends("9@0 5@0 5@0 6@0", "1 0 obj<</A[[9 0 R]<</B<<9 0 R>>>>]>>endobj");
        anew("1 0 obj\n<</A[[null]<</B<<null>>>>]>>\nendobj\n", "1 0 obj<</A[[9 0 R]<</B<<9 0 R>>>>]>>endobj");
        mends("9@0 1@13 6@0", "1 0 obj<</A[[2 0 obj]]>>endobj");
        mends("9@0 1@14 6@0", "1 0 obj<</A<<[trailer]>>>>endobj");
        tells(3, 0, "1 0 obj<</A[(])%]\n]/Type/Page>>endobj");
        trailer(2, 0, "trailer<</A[/Root 1 0 R>>/Size 5]/Root 2 0 R>>/Size 6");
        anew("1 0 obj\n<< /Length 0 /B 5>> stream\n\nendstream\nendobj\n", "1 0 obj<</Length[[>>]>>/Length 7]/B 5>>stream\nendstream endobj");
    }

    private static void equalNames() {
        says = "Of equal names the last one counts";
        String tree = "%P\n1 0 obj<</Type/Page/Type/Catalog/Pages 9 0 R/Pages 2 0 R>>endobj "
                + "2 0 obj<</Type/Pages/Kids[4 0 R 8 0 R]/Kids[3 0 R]>>endobj 3 0 obj<</Type/Page>>endobj trailer<</Root 1 0 R>>";
        mends("5@3 5@68 5@68", tree);
        pages("3", tree);
        tells(1, 2, tree);
        data("ab", "1 0 obj<</Length 9 0 R/Length 2>>stream\nab\nendstream endobj");
        mends("5@3 6@0", "%P\n1 0 obj<</Length 9 0 R/Length 2>>stream\nab\nendstream endobj");
        data("a", "1 0 obj<</Length 2/Length(2)>>stream\na\nendstream endobj");
        data("a\n", "1 0 obj<</Length(2)/Length 2>>stream\na\nendstream endobj");
        tells(3, 0, "1 0 obj<</Type/Catalog/A<</Type/Pages>>/Type/Page/B[/Type/Pages]/Type>>endobj");
        trailer(0, 0, "trailer<</Root 1 0 R/Root(1 0 R)/Size 5/Size 5 0 R>>");
        trailer(3, 4, "trailer<</Root 3 0 R/Size 4>>trailer<</Root 1 0 R/Root 0 0 R/Size 5/Size[5]>>");
        trailer(1, 5, "trailer<</Root 0 0 R/Root 1 0 R/Size[5]/Size 5>>");
    }

    private static void whereTheObjectEnds() {
        says = "It ends at the latest where the object does";
        for (String end : new String[] {"endobj", "2 0 obj endobj", "trailer"}) {
            tells(3, 1, "1 0 obj<</Type/Page/A 1 0 R/Type " + end + "/Pages/B 1 0 R>>");
            tells(0, 2, "1 0 obj<</A<</B[1 0 R<<1 0 R " + end + " 1 0 R>>]>>/Type/Page>>");
            endsAt(20, 1, "1 0 obj<</Type/Page " + end + ">>stream\nendstream endobj");
            anew("1 0 obj\n<</A[null<<null\nendobj\n" + (end.startsWith("2") ? "2 0 obj\n\nendobj\n" : ""), "1 0 obj<</A[9 0 R<<9 0 R " + end + " 9 0 R>>]>>");
        }
        tells(0, 0, "1 0 obj<</A 5 0 2 0 obj R/B 1 0 R>>endobj");
        endsAt(16, 1, "1 0 obj<</A 5 0 2 0 obj R/B 1 0 R>>endobj");
        pages("3", "1 0 obj<</Type/Catalog/Pages 2 0 R 2 0 obj<</Type/Pages/Kids[3 0 R 3 0 obj<</Type/Page trailer<</Root 1 0 R");
        mends("9@0 1@35 1@67 1@87", "1 0 obj<</Type/Catalog/Pages 2 0 R 2 0 obj<</Type/Pages/Kids[3 0 R 3 0 obj<</Type/Page trailer<</Root 1 0 R");
    }

    private static void aTrailerWithinAnObject() {
        says = "(outside of objects; within one it ends that)";
        String within = "%P\n1 0 obj<</Type/Catalog/A[trailer<</Root 1 0 R/Size 2>>]>>endobj";
        mends("1@28", within);
        trailer(1, 2, within);
        endsAt(28, 1, within);
        CHECKS.holds(label(within) + "not whole", !Checks.scanned(within).whole(1));
        mends("6@0 7@3", "%P\n1 0 obj<</Type/Catalog/A(trailer)>>/trailer%trailer\n(trailer<</Root 1 0 R>>)endobj");
        String inData = "%P\n1 0 obj<</Type/Catalog/Length 22>>stream\ntrailer<</Root 1 0 R>>\nendstream endobj";
        mends("6@0 7@3", inData);
        trailer(0, 0, inData);
        String behindData = "%P\n1 0 obj<</Type/Catalog/Length 0>>stream\nendstream trailer<</Root 1 0 R>>endobj";
        mends("1@53", behindData);
        trailer(1, 0, behindData);
        trailer(1, 2, "trailer<</Root 1 0 R/Size 5>>1 0 obj<</Root 7 0 R/Size 7>>trailer<</Root 7/Size 2>>endobj");
    }

    private static void headsBehindTheWordTrailer() {
        says = "what is behind the word trailer is gone through for heads all the same";
        String open = "%P\ntrailer<</Size 5 1 0 obj/Root 1 0 R endobj/Root 2 0 R>>";
        trailer(2, 5, open);
        endsAt(39, 1, open);
        mends("6@0", open);
        String nested = "%P\ntrailer<</Root 1 0 R/A[1 0 obj<</Type/Catalog/B 9 0 R>>endobj]/Size 3>>";
        trailer(1, 3, nested);
        mends("5@26", nested);
        anew("1 0 obj\n<</Type/Catalog/B null>>\nendobj\ntrailer << /Root 1 0 R >>\n", nested);
        trailer(1, 3, "trailer<</Root 1 0 R/A trailer/Size 3>>");
        trailer(4, 3, "trailer<</Root 1 0 R/A[trailer<</Root 4 0 R>>]/Size 3>>");
        mends("9@0 6@0", "trailer<</Root 5 0 R/A 9 0 R>>");
        mends("9@0 10@21 6@0", "trailer<</Root 5 0 R 1 0 obj");
    }

    private static void endsAndEqualNumbers() {
        says = "MEND 4 at the head of the earlier one, when the later one ends (beside MEND 1, at the place where this begins)";
        mends("9@0 1@8 4@0 6@0", "1 0 obj 1 0 obj endobj");
        mends("9@0 1@8 1@16 4@0 6@0", "1 0 obj 1 0 obj trailer");
        mends("9@0 1@8 1@16 4@0 1@24 6@0", "1 0 obj 1 0 obj 2 0 obj trailer");
        mends("9@0 1@8 1@16 1@24 4@0 1@32 4@8 6@0", "1 0 obj 2 0 obj 1 0 obj 2 0 obj trailer");
        mends("9@0 1@8 3@26 1@35 4@0 6@0", "1 0 obj 1 0 obj<<>>stream\nendstream");
        mends("9@0 1@8 3@26 2@26 4@0 6@0", "1 0 obj 1 0 obj<<>>stream\nendstrea");
        mends("9@0 1@8 10@8 6@0", "1 0 obj 1 0 obj");
        mends("9@0 10@15 6@0", "1 0 obj endobj 1 0 obj(endobj)");
    }

    private static void nullForItsReferencesAlone() {
        says = "in it each of its REFERENCES to nothing becomes null";
        anew("1 0 obj\n<</A null/B 2 0 R/C(9 0 R)/D[9 0 null]>>9 0 R\nendobj\n2 0 obj\n[9 0 R]\nendobj\n",
                "2 0 obj[9 0 R]endobj 1 0 obj<</A 9 0 R/B 2 0 R/C(9 0 R)/D[9 0 9 0 R]>>9 0 R endobj 9 0 obj");
        anew("1 0 obj\n<</A 1 0 R\nendobj\n", "1 0 obj<</A 9 0 R>>endobj 1 0 obj<</A 1 0 R trailer<</Root 9 0 R>>");
        anew("1 0 obj\n<</A null%9 0 R\n>>\nendobj\n", "1 0 obj<</A 9%0 R\n0 R%9 0 R\n>>endobj");
    }

    private static void lengthPairs() {
        says = "without the pairs whose name is /Length (from / to the end of the VALUE)";
        String end = ">> stream\nab\nendstream\nendobj\n";
        anew("1 0 obj\n<< /Length 2 /A null /B 1 0 R " + end, "1 0 obj<</Length 9 0 R/A 9 0 R /Length[9 0 R]/B 1 0 R/Length 2 >>stream\nabendstream endobj");
        anew("1 0 obj\n<< /Length 2 %/Length 2\n" + end, "1 0 obj<</Length%5\n2%/Length 2\n>>stream\nab\nendstream endobj");
        anew("1 0 obj\n<< /Length 2 /A[/Length 5]/B(/Length 5)/C/Length 5" + end, "1 0 obj<</A[/Length 5]/B(/Length 5)/C/Length 5>>stream\nab\nendstream endobj");
        anew("1 0 obj\n<< /Length 2  5 0 R" + end, "1 0 obj<</Length/Length 5 0 R>>stream\nab\nendstream endobj");
        anew("1 0 obj\n<</Length null/Length 5>>\nendobj\n", "1 0 obj<</Length 9 0 R/Length 5>>endobj");
    }

    private static void referencesWithinData() {
        says = "(References within data are none.)";
        String file = "%P\n1 0 obj<</A 1 0 R/Length 19>>stream\n<</B 9 0 R>>[8 0 R]endstream 7 0 R<</C 6 0 R>>endobj";
        tells(0, 1, file);
        mends("6@0", file);
        anew("1 0 obj\n<< /Length 19 /A 1 0 R>> stream\n<</B 9 0 R>>[8 0 R]\nendstream\nendobj\n", file);
        mends("3@39 6@0", file.replace("19", "18"));
        anew("1 0 obj\n<< /Length 19 /A 1 0 R>> stream\n<</B 9 0 R>>[8 0 R]\nendstream\nendobj\n", file.replace("19", "18"));
    }
}
