import java.util.NoSuchElementException;

/** The sentences of the document's terms that name an edge: each has its own method, which begins with its words. */
public final class EdgesOfTermsTest {
    private static final Checks CHECKS = new Checks();
    private static String says = "";

    public static void main(String[] args) {
        bytesUpTo32AreBlanks();
        regularBytes();
        passedUpToAByte10();
        nameWithoutRegularBytes();
        stringUpToTheNextOrAllThatIsLeft();
        numberOfOneToSixDigits();
        referenceToTheFirstOne();
        headFrom1To60();
        endsOfAnObject();
        openWhereTheBytesEnd();
        theLastOfEqualNumbers();
        oneThatIsCutDoesNotCount();
        firstTokenOfADictionary();
        values();
        oneWithinTheOther();
        nameRightBeforeTheEnd();
        noNameWhereANameMustBe();
        theLastOfEqualNames();
        referencesAlsoWithin();
        endsAtTheLatestWhereTheObjectDoes();
        streamAndAtOnceAByte10();
        dataByLength();
        lengthNoneTooSmallTooLarge();
        endstreamAnywhere();
        lessAByte10();
        endstreamIsMissing();
        behindEndstreamItGoesOn();
        kinds();
        laterTrailers();
        trailerUpToTheEndOfAll();
        doNotBeginWithP();
        referencesToNothing();
        mend6AlsoWhenThereAreNone();
        theCatalogueThatIsGuessed();
        eachObjectOnce();
        notAllArePages();
        withoutBlanksAtItsEnds();
        becomesNull();
        withoutThePairsOfLength();
        trailerIfThereIsACatalogue();
        CHECKS.end("EdgesOfTermsTest");
    }

    private static String label(String file) {
        return says + ": " + file.replace("\n", "\\n");
    }

    private static void mends(String due, String file) {
        CHECKS.same("mends, " + label(file), due, Checks.mends(Checks.scanned(file)));
    }

    private static void objects(int due, String file) {
        RepairScan x = new RepairScan();
        Checks.feed(x, file);
        CHECKS.same("objects, " + label(file), due, x.scan());
    }

    private static void found(String due, String file, int what) {
        RepairScan x = Checks.scanned(file);
        CHECKS.same("found(1, " + what + "), " + label(file), due, Checks.outcome(() -> x.found(1, what)));
    }

    private static void kind(int due, String text) {
        found("" + due, "%P\n1 0 obj" + text + " endobj", 3);
    }

    private static void references(int due, String text) {
        found("" + due, "%P\n1 0 obj" + text + " endobj", 4);
    }

    private static void cut(int due, String file) {
        CHECKS.same("cut, " + label(file), due, Checks.scanned(file).cut());
    }

    private static void trailer(int dueRoot, int dueSize, String file) {
        RepairScan x = Checks.scanned(file);
        CHECKS.same("Root, " + label(file), dueRoot, x.trailer(0));
        CHECKS.same("Size, " + label(file), dueSize, x.trailer(1));
    }

    private static void pages(String due, String dueMends, String file) {
        RepairScan x = Checks.scanned(file);
        CHECKS.same("pages, " + label(file), due, Checks.pages(x));
        CHECKS.same("mends, " + label(file), dueMends, Checks.mends(x));
    }

    private static void anew(String due, String file) {
        RepairScan x = Checks.scanned(file);
        x.again();
        CHECKS.same("written, " + label(file), due, Checks.written(x));
    }

    /** The object 1 with this text, behind "%P\n": its data (none: null), how it ended, and the mends. */
    private static void stream(String due, boolean dueWhole, String dueMends, String text) {
        String file = "%P\n1 0 obj" + text;
        RepairScan x = Checks.scanned(file);
        if (due == null) {
            CHECKS.raises("no data, " + label(file), NoSuchElementException.class, () -> x.stream(1, -1));
        } else {
            CHECKS.same("data, " + label(file), due, Checks.data(x, 1));
            CHECKS.holds("whole, " + label(file), x.whole(1) == dueWhole);
        }
        CHECKS.same("mends, " + label(file), dueMends, Checks.mends(x));
    }

    private static void bytesUpTo32AreBlanks() {
        says = "BYTES up to 32 are BLANKS";
        for (int b = 0; b < 256; b++) {
            objects(b <= 32 ? 1 : 0, "%P\n1" + (char) b + "0 obj endobj");
            objects(b <= 32 ? 1 : 0, "%P\n1 0" + (char) b + "obj endobj");
        }
    }

    private static void regularBytes() {
        says = "regular bytes (all above 32 but ( ) < > [ ] { } / %)";
        for (int b = 0; b < 256; b++) {
            boolean parts = b <= 32 || ")<>[]{}".indexOf(b) >= 0;
            objects(parts ? 1 : 0, "%P\n1 0 obj" + (char) b + "endobj");
            boolean ends = parts || "(/%".indexOf(b) >= 0;
            objects(ends ? 1 : 0, "%P\n1 0 obj endobj" + (char) b);
            if (b != 's') {
                kind(ends ? 3 : 0, "<</Type/Page" + (char) b + "\n)");
            }
        }
    }

    private static void passedUpToAByte10() {
        says = "A % and all up to a byte 10 are passed";
        objects(1, "%P\n1 0 obj%\nendobj");
        objects(1, "%P\n1 0 obj%)(<<[%\nendobj");
        cut(1, "%P\n1 0 obj%endobj");
        cut(1, "%P\n1 0 obj%a\rendobj");
        cut(1, "%P\n1 0 obj%");
        objects(1, "%P\n1%\n0%\nobj%\nendobj%");
        objects(1, "%P\n%%\n1 0 obj endobj");
        objects(0, "%P 1 0 obj endobj");
        kind(3, "<</Type%\n/Page%>>\n>>");
        kind(0, "<</Type(%)/Page>>");
        found("8", "%\n%\n%\n%\n1 0 obj endobj", 0);
    }

    private static void nameWithoutRegularBytes() {
        says = "a NAME: / and the regular bytes behind it";
        kind(3, "<</ 5/Type/Page>>");
        kind(0, "<<//Type/Page>>");
        kind(3, "<<///Type/Page>>");
        kind(0, "<</Type/>>");
        kind(0, "<</Type//Page>>");
        kind(3, "<</Type/Page/>>");
        kind(0, "<</Type /Page\u0080>>");
        kind(0, "<</Type/ Page>>");
    }

    private static void stringUpToTheNextOrAllThatIsLeft() {
        says = "a STRING: ( up to the next ), or all bytes that are left";
        objects(1, "%P\n1 0 obj()endobj");
        objects(1, "%P\n1 0 obj(a(b)endobj");
        objects(1, "%P\n1 0 obj(a\\)endobj");
        objects(1, "%P\n1 0 obj(endobj)endobj");
        objects(1, "%P\n1 0 obj(%)endobj");
        objects(1, "%P\n1 0 obj(\n)endobj");
        cut(1, "%P\n1 0 obj(");
        cut(1, "%P\n1 0 obj(endobj 2 0 obj endobj");
        mends("10@3 6@0", "%P\n1 0 obj<</A(>>endobj trailer<</Root 1 0 R>>");
        objects(0, "%P\n(1 0 obj endobj");
        objects(1, "%P\n(1 0 obj endobj)1 0 obj endobj");
        trailer(1, 0, "trailer<</Root 1 0 R/A(/Size 5");
        trailer(0, 5, "trailer<</A(/Root 1 0 R)/Size 5");
        stream("a", true, "6@0", "<</A(>>stream\n)/Length 1>>stream\naendstream endobj");
        stream("(", true, "6@0", "<</Length 1>>stream\n(endstream endobj");
        references(0, "<</A(1 0 R)/B(1 0 R>>) 1 0 R>>");
        kind(3, "<</A()/Type/Page>>");
    }

    private static void numberOfOneToSixDigits() {
        says = "A NUMBER is a word of one to six digits";
        String[] numbers = {"1", "01", "001", "0001", "00001", "000001"};
        for (String one : numbers) {
            objects(1, "%P\n" + one + " 0 obj endobj");
            objects(1, "%P\n1 " + one + " obj endobj");
            references(1, "<</A " + one + " 0 R>>");
            references(1, "<</A 1 " + one + " R>>");
            trailer(1, 1, "trailer<</Root " + one + " 0 R/Size " + one + ">>");
            String text = "<</Length " + one + ">>stream\n";
            stream("a", true, "6@0", text + "aendstream endobj");
        }
        String[] none = {"0000001", "1000000", "+1", "-1", "1.", ".1", "1e", "x1", "1\u0080", "(1)", "/1", "[1]", "1a", "1:", ":", "1!", "\u00b9"};
        for (String other : none) {
            objects(0, "%P\n" + other + " 0 obj endobj");
            objects(0, "%P\n1 " + other + " obj endobj");
            references(0, "<</A " + other + " 0 R>>");
            references(0, "<</A 1 " + other + " R>>");
            references(0, "<</A[" + other + " 0 R 1 " + other + " R]>>");
            trailer(0, 0, "trailer<</Root " + other + " 0 R/Size " + other + ">>");
            String text = "<</Length " + other + ">>stream\n";
            stream("a", false, "3@" + (10 + text.length()) + " 6@0", text + "aendstream endobj");
        }
        objects(1, "%P\n1 999999 obj endobj");
        objects(1, "%P\n1 000000 obj endobj");
        references(2, "<</A 999999 999999 R/B 0 0 R>>");
        trailer(999999, 999999, "trailer<</Root 999999 0 R/Size 999999>>");
        trailer(0, 100000, "trailer<</Root 0 100000 R/Size 100000>>");
    }

    private static void referenceToTheFirstOne() {
        says = "A REFERENCE is two numbers and the word R: to the first one";
        mends("5@3 6@0", "%P\n1 0 obj<</A 2 1 R/B 1 2 R>>endobj");
        references(0, "<</A 1 R>>");
        references(0, "<</A 1 0 r>>");
        references(0, "<</A 1 0 RR>>");
        references(0, "<</A 1 0 /R>>");
        references(0, "<</A 1 0(R)>>");
        references(0, "<</A[1 0]R>>");
        references(1, "<</A 1%\n0%\nR%\n>>");
        references(1, "<</A 1 0 R/B 1 0>>");
        references(1, "<</A[1 1 0 R R]>>");
        references(2, "<</A[1 0 R 0 R 1 0 R]>>");
    }

    private static void headFrom1To60() {
        says = "the first one 1 .. 60";
        for (int number = 0; number <= 70; number++) {
            boolean is = number >= 1 && number <= 60;
            objects(is ? 1 : 0, "%P\n" + number + " 0 obj endobj");
            objects(is ? 1 : 0, "%P\n" + "0".repeat(number < 10 ? 5 : 4) + number + " 0 obj endobj");
            int object = number;
            RepairScan x = Checks.scanned(" " + number + " 7 obj 5 endobj");
            CHECKS.same(says + ": found(" + number + ", 0)", is ? "1" : "NoSuchElementException", Checks.outcome(() -> x.found(object, 0)));
        }
        for (String none : new String[] {"0", "61", "100", "256", "257", "999999", "000000", "000061"}) {
            objects(0, "%P\n" + none + " 0 obj endobj");
            mends("6@0", "%P\n1 0 obj " + none + " 0 obj endobj");
            cut(0, none + " 0 obj");
        }
        objects(0, "%P\n1 obj endobj");
        objects(0, "%P\n1 0 Obj endobj");
        objects(0, "%P\n1 0 objx endobj");
        objects(0, "%P\n1 0 /obj endobj");
        objects(0, "%P\n1 0 (x) obj endobj");
        found("5", "%P\n1 1 0 obj endobj", 0);
        found("NoSuchElementException", "%P\n1 2 0 obj endobj", 0);
        objects(60, allHeads());
    }

    private static String allHeads() {
        StringBuilder all = new StringBuilder("%P\n");
        for (int i = 1; i <= 60; i++) {
            all.append(i).append(" 0 obj ");
        }
        return all + "endobj";
    }

    private static void endsOfAnObject() {
        says = "up to its END";
        found("10", "%P\n1 0 obj endobj", 1);
        found("11", "%P\n1 0 obj endobj", 2);
        found("10", "%P\n1 0 obj(endobj)endobj", 1);
        found("18", "%P\n1 0 obj(endobj)endobj", 2);
        mends("6@0", "%P\n1 0 obj endobj");
        found("14", "%P\n1 0 obj\n5 \n2 0 obj endobj", 2);
        mends("1@14 6@0", "%P\n1 0 obj\n5 \n2 0 obj endobj");
        found("13", "%P\n1 0 obj 5 trailer", 2);
        mends("1@22 6@0", "%P\n1 0 obj 5%trailer\n trailer");
        mends("1@11 1@19 6@0", "%P\n1 0 obj 2 0 obj trailer");
        mends("10@3 6@0", "%P\n1 0 obj Endobj ENDOBJ endobjs endob j");
        mends("10@3 6@0", "%P\n1 0 obj trailers Trailer /trailer (trailer) %trailer");
        mends("6@0", "%P\n1 0 obj endobj endobj trailer endobj trailer");
        mends("1@12 6@0", "%P\n1 0 obj[[2 0 obj]]endobj");
        mends("1@15 6@0", "%P\n1 0 obj<</A trailer>>endobj");
        mends("1@15 6@0", "%P\n2 0 obj<</A 1 0 obj>>endobj");
        mends("1@14 6@0", "%P\n1 0 obj 12 2 0 obj endobj");
    }

    private static void openWhereTheBytesEnd() {
        says = "An object that is open where the bytes end";
        for (String text : new String[] {"", " ", "\n", "<<", "<<>>", "<</Length 3>>", "<</Length 3>>stream", "<</Length 3>> stream\r",
            "<<>>stream \n", "(endobj)", "endob", "<</A[1 0 R]>>", "5 0 R", "2 0 ob", "61 0 obj"}) {
            String file = "%P\n1 0 obj " + text;
            mends("10@3 6@0", file);
            cut(1, file);
            objects(0, file);
            found("NoSuchElementException", file, 0);
        }
        for (String text : new String[] {"endstream", "aendstream", "endstream ", "endstream endob", "endstream(endobj)", "endstream<</A", "endstream%endobj"}) {
            String file = "%P\n1 0 obj<<>>stream\n" + text;
            mends("3@21 1@" + file.length() + " 6@0", file);
            cut(0, file);
            objects(1, file);
            found("" + file.length(), file, 2);
            CHECKS.holds("whole, " + label(file), !Checks.scanned(file).whole(1));
        }
        mends("1@39 6@0", "%P\n1 0 obj<</Length 0>>stream\nendstream");
    }

    private static void theLastOfEqualNumbers() {
        says = "Of equal numbers the last one is there";
        String file = "%P\n1 0 obj 5 endobj 1 0 obj<</Type/Page>>endobj ";
        mends("4@3 6@0 8@0", file);
        found("20", file, 0);
        found("3", file, 3);
        mends("4@3 4@20 6@0", file + "1 0 obj endobj");
        found("0", file + "1 0 obj endobj", 3);
        mends("4@3 6@0", "%P\n1 0 obj endobj 01 7 obj endobj");
        mends("1@11 4@3 4@11 6@0", "%P\n1 0 obj 1 0 obj endobj 1 0 obj endobj");
        mends("1@11 1@19 4@3 4@11 6@0", "%P\n1 0 obj 1 0 obj 1 0 obj endobj");
        mends("1@26 4@3 6@0", "%P\n1 0 obj endobj 1 0 obj trailer");
        mends("3@36 1@45 4@3 6@0", "%P\n1 0 obj endobj 1 0 obj<<>>stream\nendstream");
        mends("3@36 2@36 4@3 6@0", "%P\n1 0 obj endobj 1 0 obj<<>>stream\n");
        RepairScan x = Checks.scanned("1 0 obj<</Type/Catalog/Pages 2 0 R/A 9 0 R>>stream\nendstream endobj 1 0 obj endobj");
        CHECKS.same(says + ": nothing of the earlier one", "9@0 3@51 4@0 6@0", Checks.mends(x));
        CHECKS.same(says + ": nothing of the earlier one", 0, x.found(1, 4));
        CHECKS.raises(says + ": nothing of the earlier one", NoSuchElementException.class, () -> x.stream(1, -1));
        String earlier = "";
        for (int times = 1; times <= 3; times++) {
            earlier += "1 0 obj<</Type/Catalog/Pages 2 0 R/Kids 3 0 R/Length 0>>stream\nendstream endobj ";
            String rest = "endobj 2 0 obj<</Type/Pages/Kids 3 0 R>>endobj 3 0 obj<</Type/Page>>endobj trailer<</Root 1 0 R>>";
            String told = "4@3 4@83 4@163 ".substring(0, times == 1 ? 4 : times == 2 ? 9 : 15);
            pages("3", told + "8@0", "%P\n" + earlier + "1 0 obj<</Type/Catalog>>" + rest);
            pages("3", told + "8@0", "%P\n" + earlier + "1 0 obj<</Type/Pages>>" + rest.replace("1 0 R", "4 0 R") + "4 0 obj<</Type/Catalog/Pages 1 0 R>>endobj");
            stream(null, false, told.substring(0, told.length() - 1) + " 6@0", earlier.substring(7) + "1 0 obj<</Type/Other/A stream\nendstream endobj");
        }
    }

    private static void oneThatIsCutDoesNotCount() {
        says = "one that is cut does not count";
        String file = "%P\n1 0 obj<</Type/Page>>endobj 1 0 obj<</Type/Pages>>";
        mends("10@31 6@0 8@0", file);
        found("3", file, 0);
        found("3", file, 3);
        cut(1, file);
        CHECKS.same(says + ": twice", 0, Checks.scanned(file).twice(-1));
        RepairScan x = Checks.scanned("1 0 obj endobj 1 0 obj endobj 1 0 obj");
        CHECKS.same(says + ": twice", "1", Checks.twice(x));
        CHECKS.same(says + ": the last that counts", 15, x.found(1, 0));
        mends("6@0", "%P\n1 0 obj<</A 2 0 R>>endobj 2 0 obj endobj");
        mends("10@29 5@3 6@0", "%P\n1 0 obj<</A 2 0 R>>endobj 2 0 obj");
        CHECKS.same(says + ": no page", 0, Checks.scanned("2 0 obj<</Type/Page>>").pages());
    }

    private static void firstTokenOfADictionary() {
        says = "is there, if its first token is <<";
        kind(3, "<</Type/Page>>");
        kind(3, " \n%<\n<</Type/Page>>");
        for (String before : new String[] {"5", "[", "]", "<", ">", ">>", ")", "{", "}", "(a)", "/A", "null", "1 0 R"}) {
            kind(0, " " + before + " <</Type/Page>>");
            references(0, " " + before + " <</A 1 0 R>>");
            trailer(0, 0, "trailer " + before + " <</Root 1 0 R/Size 1>>");
            stream(null, false, "6@0", " " + before + " <<>>stream\nendstream endobj");
        }
        kind(0, "< </Type/Page>>");
        kind(0, "");
        kind(3, "<<</Type/Page>>");
        stream(null, false, "6@0", "stream\nendstream endobj");
    }

    private static void values() {
        says = "a VALUE";
        for (String value : new String[] {" 5", " 1 0 R", "/B", "(b)", " b", "<", ">", ")", "{", "}", "]", "[]", "<<>>", "[/A/B]", "<</A/B>>", " -5.0", " R", " 1000000",
            "[<<]", "<<[>>", " obj", " stream", " endstream"}) {
            kind(3, "<</A" + value + "/Type/Page>>");
            kind(0, "<</Type" + value + "/A/Page>>");
        }
        kind(3, "<</A 1 0/Type/Page>>");
        kind(3, "<</A 1 0 0 R/Type/Page>>");
        references(0, "<</A 1 1 0 R/Type/Page>>");
    }

    private static void oneWithinTheOther() {
        says = "(one within the other)";
        kind(3, "<</A[[][[]]]/Type/Page>>");
        kind(0, "<</A[[][[]]/Type/Page>>");
        kind(0, "<</A[[/Type/Page]/Type/Page]>>");
        kind(3, "<</A<<<<>><<<<>>>>>>/Type/Page>>");
        kind(0, "<</A<<<<>><<<<>>>>/Type/Page>>");
        kind(0, "<</A<<<</Type/Page>>/Type/Page>>>>");
        kind(3, "<</A[<<[>>]]/Type/Page>>");
        kind(3, "<</A[(])]/Type/Page>>");
        kind(3, "<</A[%]\n]/Type/Page>>");
        kind(3, "<</A" + "[".repeat(40) + "]".repeat(40) + "/Type/Page>>");
        kind(0, "<</A" + "[".repeat(40) + "]".repeat(39) + "/Type/Page>>");
        kind(3, "<</A" + "<<".repeat(40) + ">>".repeat(40) + "/Type/Page>>");
    }

    private static void nameRightBeforeTheEnd() {
        says = "a name right before it has no value, and is passed";
        kind(3, "<</Type/Page/Type>>");
        kind(0, "<</Type>>/Page>>");
        kind(3, "<</Type/Page/Type%\n>>");
        stream("a", true, "6@0", "<</Length 1/Length>>stream\naendstream endobj");
        stream("a", false, "3@28 6@0", "<</Length>>stream\naendstream endobj");
        trailer(1, 5, "trailer<</Root 1 0 R/Size 5/Root>>");
        trailer(1, 5, "trailer<</Root 1 0 R/Size 5/Size>>");
        pages("3", "", "%P\n1 0 obj<</Type/Catalog/Pages 2 0 R/Pages>>endobj 2 0 obj<</Type/Pages/Kids[3 0 R]/Kids>>endobj "
                + "3 0 obj<</Type/Page>>endobj trailer<</Root 1 0 R/Root>>");
    }

    private static void noNameWhereANameMustBe() {
        says = "What is not a name where a name must be is passed (references there are none of its)";
        for (String what : new String[] {"5", "5 5 5", "1 0 R", "(a)", "b", "<", ">", ")", "{", "}", "[", "]", "[]", "-1", "R"}) {
            kind(3, "<<" + what + " /Type/Page>>");
            kind(3, "<</Type/Page " + what + " >>");
            references(0, "<<" + what + " >>");
        }
        references(0, "<<1 0 R>>");
        references(1, "<<1 0 R/A 1 0 R 1 0 R>>");
        mends("6@0", "%P\n1 0 obj<<9 0 R/A 5 9 0 R>>endobj");
        trailer(0, 0, "trailer<<1 0 R 5>>");
    }

    private static void theLastOfEqualNames() {
        says = "Of equal names the last one counts";
        kind(3, "<</Type/Catalog/Type/Page>>");
        kind(0, "<</Type/Page/Type/Other>>");
        kind(0, "<</Type/Page/Type 5>>");
        stream("ab", true, "6@0", "<</Length 9/Length 2>>stream\nabendstream endobj");
        stream("ab", false, "3@40 6@0", "<</Length 2/Length 9>> stream\nabendstream endobj");
        stream("ab", false, "3@43 6@0", "<</Length 2/Length 1 0 R>>stream\nabendstream endobj");
        trailer(2, 6, "trailer<</Root 1 0 R/Size 5/Root 2 0 R/Size 6>>");
        trailer(0, 0, "trailer<</Root 1 0 R/Size 5/Root 5/Size 1 0 R>>");
        String file = "%P\n1 0 obj<</Type/Catalog/Pages 4 0 R/Pages 2 0 R>>endobj 2 0 obj<</Type/Pages/Kids[4 0 R]/Kids[3 0 R]>>endobj "
                + "3 0 obj<</Type/Page>>endobj 4 0 obj endobj trailer<</Root 1 0 R>>";
        pages("3", "", file);
        pages("3", "8@0", file.replace("[4 0 R]/Kids[3 0 R]", "[3 0 R]/Kids[4 0 R]"));
        pages("3", "8@0", file.replace("4 0 R/Pages 2 0 R", "2 0 R/Pages 4 0 R"));
        pages("3", "8@0", file.replace("4 0 R/Pages 2 0 R", "2 0 R/Pages (2 0 R)").replace("[4 0 R]", ""));
        pages("3", "8@0", file.replace("[4 0 R]/Kids[3 0 R]", "[3 0 R]/Kids 3"));
    }

    private static void referencesAlsoWithin() {
        says = "All references in it, also within [ ] and << >>";
        references(0, "<<>>");
        references(1, "<</A 1 0 R>>");
        references(1, "<</A[1 0 R]>>");
        references(1, "<</A<<1 0 R>>>>");
        references(1, "<</A<</B 1 0 R>>>>");
        references(4, "<</A[1 0 R[1 0 R<</B[1 0 R]>>1 0 R]]>>");
        references(2, "<</A 1 0 R/A 1 0 R>>");
        references(0, "<<>>1 0 R");
        references(0, "<</A 5>>/B 1 0 R>>");
        mends("5@3 5@3 5@3 6@0", "%P\n1 0 obj<</A[9 0 R<</B 9 0 R>>]/A 9 0 R>>endobj");
        CHECKS.same(says + ": none in data", 1, Checks.scanned("1 0 obj<</A 1 0 R>>stream\n<</B 1 0 R>>endstream<</C 1 0 R>>endobj").found(1, 4));
    }

    private static void endsAtTheLatestWhereTheObjectDoes() {
        says = "It ends at the latest where the object does";
        for (String end : new String[] {"endobj", "2 0 obj endobj", "trailer"}) {
            String open = "%P\n1 0 obj<</Type/Page/A 1 0 R ";
            found("3", open + end + "/Type/Pages/B 1 0 R>>", 3);
            found("1", open + end + "/Type/Pages/B 1 0 R>>", 4);
            found("1", open + "/B " + end + " 1 0 R>>", 4);
            found("2", open + "/B[1 0 R " + end + " 1 0 R]>>", 4);
            found("2", open + "/B<</C 1 0 R " + end + " 1 0 R>>>>", 4);
            found("1", open + "/B 1 0 " + end + " R>>", 4);
            found("3", open + "/Type " + end + " 1 0 R>>", 3);
            found("0", "%P\n1 0 obj<< " + end, 3);
            found("1", open + end.replace("2 0 obj", "60 0 obj") + "/B 1 0 R>>", 4);
            found("0", "%P\n1 0 obj " + end + "<</Type/Page>>", 3);
            RepairScan x = Checks.scanned(open + end + ">>stream\nendstream");
            CHECKS.raises(says + ": no stream behind " + end, NoSuchElementException.class, () -> x.stream(1, -1));
        }
        found("0", "%P\n1 0 obj<</A[/Type/Page endobj", 3);
        CHECKS.same(says + ": also before a head of 1", 0, Checks.scanned("2 0 obj<</A[1 0 obj/Type/Page]/B 1 0 R>>endobj").found(2, 4));
        anew("%P\n1 0 obj\n<</A[null\nendobj\n", "%P\n1 0 obj<</A[9 0 R endobj 9 0 R]>>");
    }

    private static void streamAndAtOnceAByte10() {
        says = "the word stream, next behind the >> that ends the dictionary, and then at once a byte 10";
        stream("", false, "3@21 6@0", "<<>>stream\nendstream endobj");
        stream("", false, "3@25 6@0", "<<>> %a\nstream\nendstream endobj");
        for (int b = 0; b < 256; b++) {
            if (b != '(' && b != '%' && b != 10) {
                stream(null, false, "6@0", "<<>>stream" + (char) b + "\nendstream endobj");
            }
        }
        stream(null, false, "6@0", "<<>>%stream\nendstream endobj");
        for (String none : new String[] {"<<>>5 stream\n", "<<>>>>stream\n", "<<>>/stream\n", "<<>>streams\n", "<<>>Stream\n", "[<<>>]stream\n", "<</A<<>>stream\n",
            "<<stream\n>>", "<</A stream\n>>", "<<>>(a)stream\n", "<<>>stream stream\n", "<<>>endstream\n", "(<<>>)stream\n"}) {
            stream(null, false, "6@0", none + "a\nendstream endobj");
        }
        stream(null, false, "6@0", "<<>>endobj stream\nendstream");
        mends("6@0", "%P\nstream\n1 0 obj 5 endobj");
        mends("6@0", "%P\n<<>>stream\n1 0 obj 5 endobj");
        stream("a", true, "6@0", "<</Length 1>>stream\na\nendstream stream\nb\nendstream<<>>stream\nc\nendstream endobj");
        stream("", false, "3@21 2@21 6@0", "<<>>stream\n");
    }

    private static void dataByLength() {
        says = "behind n bytes (and perhaps a byte 10) stand the bytes of endstream (whatever is behind them)";
        stream("ab", true, "6@0", "<</Length 2>>stream\nabendstream endobj");
        stream("ab", true, "6@0", "<</Length 2>>stream\nab\nendstream endobj");
        stream("ab\n", true, "6@0", "<</Length 3>>stream\nab\nendstream endobj");
        stream("ab\n", true, "6@0", "<</Length 3>>stream\nab\n\nendstream endobj");
        stream("", true, "6@0", "<</Length 0>>stream\nendstream endobj");
        stream("", true, "6@0", "<</Length 0>>stream\n\nendstream endobj");
        stream("\n", true, "6@0", "<</Length 1>>stream\n\nendstream endobj");
        stream("ab", true, "6@0", "<</Length 2>>stream\nabendstreamendobj");
        stream("ab", false, "1@42 6@0", "<</Length 2>>stream\nab\nendstream");
        stream("ab", true, "6@0", "<</Length 2>>stream\nab\nendstreamxy endobj");
        stream("ab", true, "10@49 6@0", "<</Length 2>>stream\nab\nendstreamendobj 2 0 obj");
        stream("endstream", true, "6@0", "<</Length 9>>stream\nendstream\nendstream endobj");
        stream("endobj 2 0 obj(", true, "6@0", "<</Length 15>>stream\nendobj 2 0 obj(\nendstream endobj");
    }

    private static void lengthNoneTooSmallTooLarge() {
        says = "Otherwise (MEND 3 where they begin)";
        stream("abc", false, "3@21 6@0", "<<>>stream\nabc\nendstream endobj");
        for (String length : new String[] {"0", "1", "2", "5", "6", "13", "14", "999", "999999", "x", "(3)", "/3", "[3]", "-3", "3.", "<<>>", "1 0 R", "1 3 R", "0000003"}) {
            String text = "<</Length " + length + ">>stream\n";
            stream("abc", false, "3@" + (10 + text.length()) + " 6@0", text + "abc\nendstream endobj");
            if (!length.equals("0")) {
                stream("", false, "3@" + (10 + text.length()) + " 6@0", text + "endstream endobj");
            }
        }
        for (String length : new String[] {"3", "4", "03", "000004"}) {
            String text = "<</Length " + length + ">>stream\n";
            stream(length.endsWith("3") ? "abc" : "abc\n", true, "6@0", text + "abc\nendstream endobj");
        }
        stream("", false, "3@30 6@0", "<</Length 9>>stream\nendstream endobj");
        stream("", false, "3@30 6@0", "<</Length 1>>stream\nendstream endobj");
        stream("a", false, "3@30 6@0", "<</Length 0>>stream\na\nendstream endobj");
        stream("a\n", false, "3@30 6@0", "<</Length 1>>stream\na\n\nendstream endobj");
        stream("a", false, "3@30 6@0", "<</Length 2>>stream\naendstream endobj");
        stream("a\r", false, "3@30 6@0", "<</Length 1>>stream\na\rendstream endobj");
        stream("ab", false, "3@30 2@30 6@0", "<</Length 2>>stream\nab");
    }

    private static void endstreamAnywhere() {
        says = "they go up to the next endstream (its bytes, anywhere)";
        stream("a", false, "3@21 6@0", "<<>>stream\naendstream endobj");
        stream("(", false, "3@21 6@0", "<<>>stream\n(endstream)endobj");
        stream("%", false, "3@21 6@0", "<<>>stream\n%endstream endobj");
        stream("/", false, "3@21 6@0", "<<>>stream\n/endstreams endobj");
        stream("a", false, "3@21 6@0", "<<>>stream\naendstreamendstream endobj");
        stream("end", false, "3@21 6@0", "<<>>stream\nendendstream endobj");
        stream("endstrea", false, "3@21 6@0", "<<>>stream\nendstreaendstream endobj");
        stream("endobj 1 0 obj trailer ", false, "3@21 6@0", "<<>>stream\nendobj 1 0 obj trailer endstream endobj");
        stream("a", false, "3@30 6@0", "<</Length 8>>stream\naendstream bendstream endobj");
    }

    private static void lessAByte10() {
        says = "less a byte 10 before it";
        stream("a", false, "3@21 6@0", "<<>>stream\na\nendstream endobj");
        stream("a\n", false, "3@21 6@0", "<<>>stream\na\n\nendstream endobj");
        stream("", false, "3@21 6@0", "<<>>stream\n\nendstream endobj");
        stream("\n", false, "3@21 6@0", "<<>>stream\n\n\nendstream endobj");
        stream("", false, "3@21 6@0", "<<>>stream\nendstream endobj");
        stream("a\r", false, "3@21 6@0", "<<>>stream\na\rendstream endobj");
        stream("a\n\r", false, "3@21 6@0", "<<>>stream\na\n\rendstream endobj");
        stream("a ", false, "3@21 6@0", "<<>>stream\na endstream endobj");
    }

    private static void endstreamIsMissing() {
        says = "or if there is none, up to the end of all (MEND 2 where they begin behind that), and the object is there, and ends (no MEND 1)";
        stream("", false, "3@21 2@21 6@0", "<<>>stream\n");
        stream("\n", false, "3@21 2@21 6@0", "<<>>stream\n\n");
        stream("endstrea", false, "3@21 2@21 6@0", "<<>>stream\nendstrea");
        stream("Endstream", false, "3@21 2@21 6@0", "<<>>stream\nEndstream");
        stream("a endobj 2 0 obj endobj", false, "3@21 2@21 6@0", "<<>>stream\na endobj 2 0 obj endobj");
        stream("ab", false, "3@30 2@30 6@0", "<</Length 2>>stream\nab");
        stream("ab endobj trailer<</Root 1 0 R>>", false, "3@30 2@30 6@0", "<</Length 2>>stream\nab endobj trailer<</Root 1 0 R>>");
        String file = "%P\n1 0 obj<</Type/Page/A 9 0 R>>stream\nab\n";
        mends("3@39 2@39 5@3 6@0 8@0", file);
        found("" + file.length(), file, 2);
        found("1", file, 4);
        cut(0, file);
        objects(1, file);
        anew("%P\n1 0 obj\n<< /Length 3 /Type/Page/A null>> stream\nab\n\nendstream\nendobj\n", file);
    }

    private static void behindEndstreamItGoesOn() {
        says = "Behind endstream it goes on";
        objects(2, "%P\n1 0 obj<<>>stream\nendstream2 0 obj endobj");
        mends("3@21 1@30 6@0", "%P\n1 0 obj<<>>stream\nendstream2 0 obj endobj");
        mends("3@21 6@0", "%P\n1 0 obj<<>>stream\nendstreamendobj");
        mends("3@21 6@0", "%P\n1 0 obj<<>>stream\nendstreamx endobj");
        mends("3@21 1@37 6@0", "%P\n1 0 obj<<>>stream\nendstreamxendobj");
        mends("3@21 1@30 6@0", "%P\n1 0 obj<<>>stream\nendstreamtrailer");
        mends("3@21 1@37 6@0", "%P\n1 0 obj<<>>stream\nendstream(endobj");
        mends("3@21 1@30 3@48 2@48 6@0", "%P\n1 0 obj<<>>stream\nendstream2 0 obj<<>>stream\n");
        found("30", "%P\n1 0 obj<<>>stream\nendstreamendobj", 2);
        RepairScan x = Checks.scanned("1 0 obj<<>>stream\nendstreamendobj 2 0 obj<</Length 1>>stream\nbendstreamendobj3 0 obj endobj");
        CHECKS.same(says + ": places", 34, x.found(2, 0));
        CHECKS.raises(says + ": a head needs its word", NoSuchElementException.class, () -> x.found(3, 0));
    }

    private static void kinds() {
        says = "KINDS: 1 an object whose Type is /Catalog, 2 /Pages, 3 /Page, 0 others";
        kind(1, "<</Type/Catalog>>");
        kind(2, "<</Type/Pages>>");
        kind(3, "<</Type/Page>>");
        for (String type : new String[] {"/Pagess", "/Pag", "/page", "/Catalogs", "/Catalogue", "/Cat", "/", "/Type", " Page", "(/Page)", "[/Page]", "<</Page>>", " 3", " 3 0 R"}) {
            kind(0, "<</Type" + type + ">>");
        }
        kind(0, "<</type/Page>>");
        kind(0, "<</Types/Page>>");
        kind(0, "<</Typ/Page>>");
        kind(3, "<</Type/Page>>stream\nendstream");
        kind(2, "<</Type/Pages");
    }

    private static void laterTrailers() {
        says = "of them the later ones that are a reference (above 0), a number";
        String first = "trailer<</Root 1 0 R/Size 5>>";
        trailer(1, 5, first);
        trailer(2, 6, first + "trailer<</Root 2 0 R/Size 6>>");
        trailer(2, 5, first + "trailer<</Root 2 0 R>>");
        trailer(1, 6, first + "trailer<</Size 6>>");
        trailer(1, 5, first + "trailer<</Root 0 0 R/Size 6 0 R>>");
        trailer(1, 0, first + "trailer<</Root 7/Size 0>>");
        trailer(61, 5, first + "trailer<</Root 61 0 R/Size 1234567>>");
        trailer(1, 5, first + "trailer");
        trailer(1, 5, first + "trailer<<>>");
        trailer(1, 5, "trailer<</Root 3 0 R/Size 9>>" + first + "trailer[/Root 2 0 R/Size 6]");
        trailer(2, 6, "1 0 obj trailer<</Root 2 0 R/Size 6>>");
        trailer(0, 0, "1 0 obj<</Root 2 0 R/Size 6>>endobj");
        trailer(0, 0, "1 0 obj<<>>stream\n" + first + "endstream endobj");
        trailer(0, 0, "(" + first + ")%" + first);
    }

    private static void trailerUpToTheEndOfAll() {
        says = "Such a dictionary goes up to its >> or the end of all; what is behind the word trailer is gone through for heads all the same";
        trailer(1, 5, "trailer<</Root 1 0 R/Size 5");
        trailer(1, 0, "trailer<</Root 1 0 R/Size");
        trailer(0, 5, "trailer<</Size 5/Root 1 0");
        trailer(1, 0, "trailer<</Root 1 0 R>>/Size 5");
        trailer(1, 5, "trailer<</Root 1 0 R endobj 2 0 obj endobj/Size 5>>");
        trailer(0, 5, "trailer<</Size 5/A[/Root 1 0 R");
        trailer(3, 7, "trailer<</A 1 0 R trailer<</Root 3 0 R/Size 7>>");
        mends("6@0", "%P\ntrailer<</A 2 0 obj endobj>>");
        mends("10@16 6@0", "%P\ntrailer<</A[ 2 0 obj");
        objects(2, "%P\ntrailer<<1 0 obj 2 0 obj>>endobj");
        found("12", "%P\ntrailer<<1 0 obj<</Root 5 0 R>>endobj", 0);
        RepairScan x = Checks.scanned("%P\ntrailer<</Root 1 0 R/Size 1 0 obj<</Type/Catalog>>endobj");
        CHECKS.same(says + ": Root", 1, x.trailer(0));
        CHECKS.same(says + ": Size", 1, x.trailer(1));
        CHECKS.same(says + ": catalogue", 1, x.catalogue());
        CHECKS.same(says + ": mends", "", Checks.mends(x));
    }

    private static void doNotBeginWithP() {
        says = "MEND 9 at 0 first, when they do not begin with %P";
        mends("6@0", "%P");
        mends("6@0", "%PDF");
        for (String none : new String[] {"%", "P", "%p", " %P", "\n%P", "P%", "%%P", "%\nP", "\0"}) {
            mends("9@0 6@0", none);
        }
        mends("9@0 10@0 6@0", "1 0 obj");
        mends("9@0 1@8 6@0", "1 0 obj trailer");
    }

    private static void referencesToNothing() {
        says = "for each reference, in order, to an object that is not there: MEND 5 at its head";
        mends("6@0", "%P\n1 0 obj<</A 1 0 R>>endobj");
        mends("5@3 6@0", "%P\n1 0 obj<</A 0 0 R>>endobj");
        mends("5@3 6@0", "%P\n1 0 obj<</A 60 0 R>>endobj");
        mends("6@0", "%P\n1 0 obj<</A 60 0 R>>endobj 60 0 obj endobj");
        mends("5@3 6@0", "%P\n1 0 obj<</A 61 0 R>>endobj 61 0 obj endobj");
        mends("5@3 6@0", "%P\n1 0 obj<</A 999999 0 R>>endobj");
        mends("5@3 5@3 6@0", "%P\n1 0 obj<</A 9 0 R/B 9 0 R>>endobj");
        mends("5@3 6@0", "%P\n60 0 obj<</A 9 0 R>>endobj");
        mends("6@0", "%P\n60 0 obj<</A 1 0 R>>endobj 1 0 obj<</A 60 0 R>>endobj");
        mends("5@29 5@3 6@0", "%P\n2 0 obj<</A 9 0 R>>endobj 1 0 obj<</A 9 0 R>>endobj");
        mends("4@3 6@0", "%P\n1 0 obj<</A 9 0 R>>endobj 1 0 obj endobj");
        mends("10@29 5@3 6@0", "%P\n1 0 obj<</A 9 0 R>>endobj 9 0 obj");
        mends("6@0", "%P\n1 0 obj<</Length 5>>stream\n9 0 Rendstream endobj trailer<</Root 9 0 R>>");
    }

    private static void mend6AlsoWhenThereAreNone() {
        says = "MEND 6 at 0, also when there are none";
        mends("6@0", "%P\n");
        mends("6@0", "%P\n1 0 obj endobj");
        mends("6@0", "%P\n1 0 obj endobj trailer<</Root 1 0 R>>");
        mends("6@0", "%P\n1 0 obj<</Type/Pages>>endobj trailer<</Root 1 0 R>>");
        mends("6@0", "%P\ntrailer<</Root 1 0 R>>");
        mends("6@0 7@3", "%P\n1 0 obj<</Type/Catalog>>endobj");
        mends("6@0 7@3", "%P\n1 0 obj<</Type/Catalog>>endobj trailer<</Root 2 0 R>>");
        mends("6@0 7@3", "%P\n1 0 obj<</Type/Catalog>>endobj trailer<</Root 61 0 R>>");
        mends("6@0 7@3", "%P\n1 0 obj<</Type/Catalog>>endobj trailer<</Root 999999 0 R>>");
        mends("", "%P\n1 0 obj<</Type/Catalog>>endobj trailer<</Root 1 0 R>>");
        mends("", "%P\n60 0 obj<</Type/Catalog>>endobj trailer<</Root 60 0 R>>");
    }

    private static void theCatalogueThatIsGuessed() {
        says = "of those of kind 1 whose Pages is an object of kind 2 the one whose head comes last, or if there is none of all of kind 1";
        String node = "%P\n2 0 obj<</Type/Pages>>endobj ";
        String with = " 0 obj<</Type/Catalog/Pages 2 0 R>>endobj ";
        String without = " 0 obj<</Type/Catalog>>endobj ";
        guessed(5, node + "9" + with + "5" + with + "7" + without);
        guessed(9, node + "5" + with + "9" + with);
        guessed(9, node + "9" + with + "5" + without + "7 0 obj<</Type/Catalog/Pages 9 0 R>>endobj 8 0 obj<</Type/Catalog/Pages[2 0 R]>>endobj");
        guessed(5, node + "9" + without + "5" + without);
        guessed(9, node + "5" + without + "9" + without);
        guessed(5, "%P\n9" + with + "5" + with + "2 0 obj endobj");
        guessed(0, node);
        guessed(9, node + "9" + with + "5" + with.substring(0, with.length() - 8));
        guessed(5, node + "5" + with + "9" + with + "5" + with);
        guessed(60, node + "1" + with + "60" + with);
        guessed(1, node + "60" + with + "1" + with);
    }

    private static void guessed(int due, String file) {
        RepairScan x = Checks.scanned(file);
        CHECKS.same("catalogue, " + label(file), due, x.catalogue());
        String told = Checks.mends(x) + " ";
        CHECKS.holds("mends " + told + label(file), told.contains(" 7@") == due > 0 && (" " + told).contains(" 6@0 ")
                && (due == 0 || told.contains("6@0 7@" + x.found(due, 0) + " ")));
    }

    private static void eachObjectOnce() {
        says = "of kind 3 a page, of kind 2 its Kids in place of it; each object once";
        String top = "%P\n1 0 obj<</Type/Catalog/Pages 2 0 R>>endobj trailer<</Root 1 0 R>>2 0 obj<</Type/Pages/Kids";
        String page3 = ">>endobj 3 0 obj<</Type/Page>>endobj ";
        String page4 = "4 0 obj<</Type/Page>>endobj ";
        pages("3", "", top + "[3 0 R]" + page3);
        pages("3", "", top + " 3 0 R" + page3);
        pages("3", "", top + "[3 0 R 3 0 R]" + page3);
        pages("3", "", top + "[2 0 R 3 0 R 2 0 R]" + page3);
        pages("3", "", top + "[1 0 R 3 0 R]" + page3);
        pages("4 3", "", top + "[4 0 R 3 0 R 4 0 R]" + page3 + page4);
        pages("4 3", "", top + "[5 0 R 3 0 R 4 0 R]" + page3 + page4 + "5 0 obj<</Type/Pages/Kids[4 0 R 2 0 R 5 0 R]>>endobj");
        pages("4 3", "", top + "[5 0 R 5 0 R 3 0 R]" + page3 + page4 + "5 0 obj<</Type/Pages/Kids[6 0 R]>>endobj 6 0 obj<</Type/Pages/Kids[5 0 R 4 0 R]>>endobj");
        pages("3 4", "", top + "<</A[3 0 R]/B 4 0 R>>" + page3 + page4);
        pages("3 4", "8@0", top + "[3 0 R]/A 4 0 R" + page3 + page4);
        pages("3 4", "8@0", (top + "[3 0 R]" + page3 + page4).replace("/Kids", "/A 4 0 R/Kids"));
        pages("3", "8@0", top + "[5 0 R]" + page3 + "5 0 obj<</Kids[3 0 R]>>endobj");
        pages("3", "8@0", top + "[5 0 R]" + page3 + "5 0 obj<</Type/Catalog/Kids[3 0 R]>>endobj");
        pages("3 4", "8@0", top + "[3 0 R]" + page3 + page4 + "5 0 obj<</Type/Pages/Kids[4 0 R]>>endobj");
        pages("", "", top + "[]>>endobj");
        pages("", "", top + ">>endobj");
        pages("", "", top + "[2 0 R]>>endobj");
        pages("", "5@68", top + "[9 0 R]>>endobj");
        pages("", "", top.replace("2 0 R", "1 0 R") + "[2 0 R]>>endobj");
    }

    private static void notAllArePages() {
        says = "If not all objects of kind 3 are pages then: all of them by their numbers are (MEND 8 at 0)";
        String file = "%P\n1 0 obj<</Type/Catalog/Pages 2 0 R>>endobj trailer<</Root 1 0 R>>2 0 obj<</Type/Pages/Kids[5 0 R 4 0 R]>>endobj "
                + "5 0 obj<</Type/Page>>endobj 4 0 obj<</Type/Page>>endobj ";
        pages("5 4", "", file);
        pages("4 5 60", "8@0", file + "60 0 obj<</Type/Page>>endobj");
        pages("5 4", "10@171", file + "60 0 obj<</Type/Page>>");
        pages("3 4 5", "8@0", file + "3 0 obj<</Type/Page>>endobj");
        pages("5 4", "", file + "3 0 obj<</Type/Pages/Kids[4 0 R]>>endobj");
        pages("4 5", "8@0", file.replace("/Kids", "/Sons"));
        pages("4 5", "8@0", file.replace("Catalog/Pages", "Catalog/Nodes"));
        pages("4 5", "8@0", file.replace("Pages 2 0 R", "Pages[2 0 R]"));
        pages("4 5", "8@0", file.replace("Pages 2 0 R", "Pages 4 0 R"));
        pages("4 5", "6@0 8@0", file.replace("Catalog", "Catalogue"));
        pages("3", "8@0", "%P\n2 0 obj<</Type/Catalog>>endobj 1 0 obj<</Type/Pages/Kids 3 0 R>>endobj 3 0 obj<</Type/Page>>endobj trailer<</Root 2 0 R>>");
        pages("5", "4@143", file + "4 0 obj endobj");
    }

    private static void withoutBlanksAtItsEnds() {
        says = "its text without blanks at its ends";
        StringBuilder blanks = new StringBuilder();
        for (char c = 0; c <= 32; c++) {
            blanks.append(c);
        }
        anew("%P\n1 0 obj\n\nendobj\n", "1 0 obj endobj");
        anew("%P\n1 0 obj\n\nendobj\n", "1 0 obj" + blanks + "endobj");
        anew("%P\n1 0 obj\n5\nendobj\n", "1 0 obj" + blanks + "5" + blanks + "endobj");
        anew("%P\n1 0 obj\n5" + blanks + "6\nendobj\n", "1 0 obj" + blanks + "5" + blanks + "6" + blanks + "endobj");
        anew("%P\n1 0 obj\n<<>>\nendobj\n", "1 0 obj<<>>endobj");
        anew("%P\n1 0 obj\n!\u00a0\u0080\nendobj\n", "1 0 obj !\u00a0\u0080 endobj");
        anew("%P\n1 0 obj\n\u007f\nendobj\n", "1 0 obj \u007f endobj");
        anew("%P\n1 0 obj\n%a\nendobj\n", "1 0 obj%a\nendobj");
        anew("%P\n1 0 obj\n( )\nendobj\n", "1 0 obj( )endobj");
        anew("%P\n1 0 obj\n5\nendobj\n2 0 obj\n\nendobj\n", "1 0 obj 5 2 0 obj trailer");
        anew("%P\n1 0 obj\n5\nendobj\n60 0 obj\n6\nendobj\n", "60 7 obj 6 endobj 000001 8 obj 5 endobj 2 0 obj 7");
        anew("%P\n", " ");
    }

    private static void becomesNull() {
        says = "in it each of its REFERENCES to nothing becomes null";
        anew("%P\n1 0 obj\n<</A null/B 1 0 R>>\nendobj\n", "1 0 obj<</A 9 0 R/B 1 0 R>>endobj");
        anew("%P\n1 0 obj\n<</A null/B null/C null/D null>>\nendobj\n", "1 0 obj<</A 0 0 R/B 61 0 R/C 999999 0 R/D 60%9 0 R\n\n0  R>>endobj");
        anew("%P\n1 0 obj\n<</A[null<</B null>>]9 0 R>>9 0 R[9 0 R]\nendobj\n", "1 0 obj<</A[9 0 R<</B 9 0 R>>]9 0 R>>9 0 R[9 0 R]endobj");
        anew("%P\n1 0 obj\n9 0 R\nendobj\n", "1 0 obj 9 0 R endobj");
        anew("%P\n1 0 obj\n[9 0 R]\nendobj\n", "1 0 obj[9 0 R]endobj");
        anew("%P\n1 0 obj\n<</A(9 0 R)/B 9 9 0 R>>%9 0 R\nendobj\n", "1 0 obj<</A(9 0 R)/B 9 9 0 R>>%9 0 R\nendobj");
        anew("%P\n1 0 obj\n<</A null\nendobj\n", "1 0 obj<</A 2 0 R 2 0 obj");
        anew("%P\n1 0 obj\n<< /Length 5 /A null>> stream\n9 0 R\nendstream\nendobj\n", "1 0 obj<</A 9 0 R>>stream\n9 0 Rendstream 9 0 R endobj");
    }

    private static void withoutThePairsOfLength() {
        says = "without the pairs whose name is /Length (from / to the end of the VALUE)";
        String end = ">> stream\n\nendstream\nendobj\n";
        anew("%P\n1 0 obj\n<< /Length 0 " + end, "1 0 obj<<>>stream\n");
        anew("%P\n1 0 obj\n<< /Length 0 " + end, "1 0 obj \n<</Length 5>>stream\n");
        anew("%P\n1 0 obj\n<< /Length 0    " + end, "1 0 obj<< /Length  5  >>  stream\n");
        anew("%P\n1 0 obj\n<< /Length 0 /A 1/B 2" + end, "1 0 obj<</Length 5/A 1/Length[5]/B 2/Length<</Length 5>>>>stream\n");
        anew("%P\n1 0 obj\n<< /Length 0 /A<</Length 5>>" + end, "1 0 obj<</A<</Length 5>>/Length 9 0 R>>stream\n");
        anew("%P\n1 0 obj\n<< /Length 0 /Lengths 5/length 5" + end, "1 0 obj<</Lengths 5/length 5>>stream\n");
        anew("%P\n1 0 obj\n<< /Length 0 /A/Length 5" + end, "1 0 obj<</A/Length 5>>stream\n");
        anew("%P\n1 0 obj\n<< /Length 0 0 R" + end, "1 0 obj<</Length(5)0 R>>stream\n");
        anew("%P\n1 0 obj\n<< /Length 0 /A 1 0 R/B null" + end, "1 0 obj<</Length 9 0 R/A 1 0 R/Length[9 0 R]/B 9 0 R>>stream\n");
        anew("%P\n1 0 obj\n<< /Length 0 /Length" + end, "1 0 obj<</Length 5/Length>>stream\n");
        anew("%P\n1 0 obj\n<</Length 5>>\nendobj\n", "1 0 obj<</Length 5>>endobj");
        anew("%P\n1 0 obj\n<< /Length 1 >> stream\na\nendstream\nendobj\n2 0 obj\n<< /Length 2 /A 1 0 R>> stream\nbc\nendstream\nendobj\n",
                "2 0 obj<</Length 7/A 1 0 R>>stream\nbcendstream 1 0 obj<</Length 1>>stream\naendstream endobj");
        anew("%P\n1 0 obj\n<< /Length 10 >> stream\n0123456789\nendstream\nendobj\n", "1 0 obj<</Length 3>>stream\n0123456789\nendstream endobj");
        anew("%P\n1 0 obj\n<< /Length 100 >> stream\n" + "a".repeat(100) + "\nendstream\nendobj\n", "1 0 obj<<>>stream\n" + "a".repeat(100));
    }

    private static void trailerIfThereIsACatalogue() {
        says = "Then, if there is a catalogue";
        anew("%P\n1 0 obj\n<</Type/Catalog>>\nendobj\ntrailer << /Root 1 0 R >>\n", "1 0 obj<</Type/Catalog>>endobj");
        anew("%P\n60 0 obj\n<</Type/Catalog>>\nendobj\ntrailer << /Root 60 0 R >>\n", "60 0 obj<</Type/Catalog>>endobj trailer<</Root 1 0 R/Size 9>>");
        anew("%P\n1 0 obj\n<</Type/Pages>>\nendobj\n", "1 0 obj<</Type/Pages>>endobj trailer<</Root 1 0 R>>");
        anew("%P\n", "%P\ntrailer<</Root 1 0 R>>");
    }
}
