import java.lang.reflect.Member;
import java.lang.reflect.Method;
import java.lang.reflect.Modifier;
import java.nio.file.Files;
import java.nio.file.Path;
import java.util.Arrays;
import java.util.Random;
import java.util.TreeSet;

/** The class shows what the document's face shows, keeps to its language, and throws only what it names. */
public final class FaceTest {
    private static final Checks CHECKS = new Checks();

    public static void main(String[] args) throws Exception {
        face();
        language();
        onlyNamedExceptions();
        CHECKS.end("FaceTest");
    }

    private static void face() {
        TreeSet<String> shown = new TreeSet<>();
        for (Method method : RepairScan.class.getDeclaredMethods()) {
            if (!isHidden(method)) {
                shown.add(method.getReturnType() + " " + method.getName() + Arrays.toString(method.getParameterTypes())
                        + Arrays.toString(method.getExceptionTypes()));
            }
        }
        String index = "class java.lang.IndexOutOfBoundsException";
        String none = "class java.util.NoSuchElementException";
        TreeSet<String> due = new TreeSet<>(Arrays.asList(
                "void add[byte][class java.lang.UnsupportedOperationException]",
                "int scan[][class java.lang.IllegalStateException]",
                "long found[int, int][" + none + ", " + index + "]",
                "int mended[int, int][" + index + "]",
                "int catalogue[][]",
                "int pages[][]",
                "int page[int][" + index + "]",
                "int cut[][]",
                "int trailer[int][" + index + "]",
                "int stream[int, int][" + none + ", " + index + "]",
                "boolean whole[int][" + none + "]",
                "int twice[int][" + index + "]",
                "int again[][]",
                "int written[int][" + index + "]"));
        CHECKS.same("the methods", due.toString(), shown.toString());
        CHECKS.same("the constructors", 1, RepairScan.class.getDeclaredConstructors().length);
        CHECKS.holds("the class", Modifier.isFinal(RepairScan.class.getModifiers()));
        for (java.lang.reflect.Field field : RepairScan.class.getDeclaredFields()) {
            CHECKS.holds("field " + field.getName(), isHidden(field));
        }
    }

    private static boolean isHidden(Member member) {
        return Modifier.isPrivate(member.getModifiers()) || member.isSynthetic();
    }

    private static void language() throws Exception {
        String source = Files.readString(Path.of("src/main/java/RepairScan.java"));
        for (String word : new String[] {"finally", "synchronized", "assert", "protected", "package", "hashCode", "getMessage",
            "ArrayIndexOutOfBoundsException", "NullPointerException", "ClassCastException", "NegativeArraySizeException",
            "ArrayStoreException", "Throwable", "Exception", "Error", "System.out", "Random", "Thread"}) {
            CHECKS.holds("the source has no " + word, !source.matches("(?s).*\\b" + word + "\\b.*"));
        }
        CHECKS.holds("the source has no lambda", !source.contains("->") && !source.contains("::"));
        CHECKS.holds("the source imports from java.util alone", !source.matches("(?s).*\\bimport (?!java\\.util\\.[A-Z]\\w+;).*"));
    }

    /** Bytes and arguments by chance (from fixed seeds): the exceptions are those of the face, of their very class. */
    private static void onlyNamedExceptions() {
        int[] edges = {Integer.MIN_VALUE, -2, -1, 0, 1, 2, 3, 4, 5, 59, 60, 61, 1499, 1500, 2999, 3000, Integer.MAX_VALUE};
        for (int seed = 0; seed < 300; seed++) {
            Random random = new Random(seed);
            RepairScan x = new RepairScan();
            for (int call = 0; call < 512; call++) {
                int a = edges[random.nextInt(edges.length)];
                int b = edges[random.nextInt(edges.length)];
                String got = outcome(x, random.nextInt(60), a, b, random);
                CHECKS.holds("seed " + seed + " call " + call + " " + got, isNamed(got));
            }
        }
    }

    private static boolean isNamed(String got) {
        return Arrays.asList("", "java.lang.UnsupportedOperationException", "java.lang.IllegalStateException",
                "java.util.NoSuchElementException", "java.lang.IndexOutOfBoundsException").contains(got);
    }

    private static String outcome(RepairScan x, int which, int a, int b, Random random) {
        String signs = "1234560 \n%()<>[]{}/objendstreamtrailerR";
        try {
            switch (which) {
                case 0: x.scan(); break;
                case 1: x.found(a, b); break;
                case 2: x.mended(a, b); break;
                case 3: x.catalogue(); break;
                case 4: x.pages(); break;
                case 5: x.page(a); break;
                case 6: x.cut(); break;
                case 7: x.trailer(a); break;
                case 8: x.stream(a, b); break;
                case 9: x.whole(a); break;
                case 10: x.twice(a); break;
                case 11: x.again(); break;
                case 12: x.written(a); break;
                case 13: Checks.feed(x, "1 0 obj<</Type/Pages/Kids[1 0 R 5 0 R]>>stream\n"); break;
                case 14: Checks.feed(x, "endstream endobj "); break;
                case 15: x.add((byte) random.nextInt(256)); break;
                default: x.add((byte) signs.charAt(random.nextInt(signs.length()))); break;
            }
            return "";
        } catch (RuntimeException e) {
            return e.getClass().getName();
        }
    }
}
