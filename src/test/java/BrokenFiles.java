import java.util.Random;

/** Makes broken files by chance, for the tests that compare with Model. */
final class BrokenFiles {
    private static final String[] PIECES = {
        "1 0 obj", "2 0 obj", "3 0 obj", "1 0 obj<<", "2 0 obj <<", "4 1 obj\n<<", "60 0 obj", "60 0 obj<</Type/Page/A 8 0 R>>", "/Pages 60 0 R", "60 0 R", "61 0 obj", "0 0 obj",
        "endobj", "endobj", "endobj\n", ">>", ">>", ">> endobj", "<<", "[", "]", "<", ">", ")", "{", "}", "(a", "(1 0 obj)", "(b)",
        "%c\n", "%c", "\n", " ", "\0", "\t", "/", "/Type", "/Type /Page", "/Type/Page", "/Type /Pages", "/Type/Catalog",
        "/Pages", "/Pages 2 0 R", "/Pages 3 0 R", "/Kids", "/Kids [", "/Kids [3 0 R 4 0 R]", "/Kids[1 0 R[2 0 R]<</A 3 0 R>>]",
        "/Kids 3 0 R", "/Length", "/Length 0", "/Length 1", "/Length 2", "/Length 5", "/Length 9 0 R", "/Length(x)", "/Length 1234567",
        ">>stream\n", ">> stream\n", "stream\n", "stream", "stream\r\n", "endstream", "\nendstream", "endstreamendobj", "\nendstream\nendobj\n",
        "a", "ab", "hello", "\nabc", "trailer", "trailer<<", "trailer <</Root 1 0 R /Size 5>>", "trailer << /Root 2 0 R >>",
        "/Root", "/Root 0 0 R", "/Root 1 0 R", "/Size 7", "/Size", "R", "obj", "1 0 R", "3 0 R", "4 0 R", "9 0 R", "0 0 R", "000001 0 R",
        "0000001 0 R", "1", "0", "12", "\u00ff", "\u0080 x", "%P\n", "5 0 obj<</Type/Page>>endobj\n", "/A", "/A /B", "/A[", "/A<<",
    };
    static final String[] FILES = {
        "%P\n1 0 obj\n<< /Type /Catalog /Pages 2 0 R >>\nendobj\n2 0 obj <</Type/Pages/Kids[3 0 R 4 0 R]>> endobj\n"
            + "3 0 obj<</Type /Page>>endobj\n4 0 obj << /Type /Page >> endobj\ntrailer << /Root 1 0 R /Size 5 >>\n",
        "%P\n7 0 obj<</Type/Catalog/Pages 8 0 R>>endobj 8 0 obj<</Type/Pages/Kids[9 0 R[10 0 R]]>>endobj "
            + "9 0 obj<</Type/Pages/Kids[11 0 R 8 0 R]>>endobj 10 0 obj<</Type/Page/Contents 12 0 R>>endobj\n"
            + "11 0 obj <</Type/Page>> endobj 12 0 obj <</Length 5>> stream\nhello\nendstream endobj\ntrailer<</Root 7 0 R>>",
        "%P\n1 0 obj<</Length 4/A[1 0 R]>>stream\nabcdendstream\nendobj 2 0 obj<</Length 2 0 R /Length 11>>\nstream\n"
            + "a endstream\nendstream\nendobj 1 0 obj 5 endobj 3 0 obj << /A << /B [ 9 0 R ] >> /C (9 0 R) >> endobj\n",
    };

    private BrokenFiles() {
    }

    /** Pieces of files in any order. */
    static String pieces(Random random) {
        StringBuilder file = new StringBuilder(random.nextInt(3) == 0 ? "" : "%P\n");
        int most = random.nextInt(20) == 0 ? 200 : 40;
        for (int left = random.nextInt(most); left > 0; left--) {
            file.append(PIECES[random.nextInt(PIECES.length)]).append(random.nextInt(3) == 0 ? "" : " ");
        }
        return file.length() > 1500 ? file.substring(0, 1500) : file.toString();
    }

    /** A whole file with some of its bytes changed, left out or doubled. */
    static String broken(Random random) {
        StringBuilder file = new StringBuilder(FILES[random.nextInt(FILES.length)]);
        for (int left = random.nextInt(5); left > 0; left--) {
            int from = random.nextInt(file.length() + 1);
            int to = Math.min(file.length(), from + random.nextInt(12));
            switch (random.nextInt(5)) {
                case 0:
                    file.delete(from, to);
                    break;
                case 1:
                    file.insert(from, PIECES[random.nextInt(PIECES.length)]);
                    break;
                case 2:
                    file.insert(random.nextInt(file.length() + 1), file.substring(from, to));
                    break;
                case 3:
                    file.setLength(Math.max(from, 20));
                    break;
                default:
                    file.replace(from, to, String.valueOf((char) random.nextInt(256)));
                    break;
            }
        }
        return file.length() > 1500 ? file.substring(0, 1500) : file.toString();
    }
}
