import java.nio.file.Files;
import java.nio.file.Path;
import java.util.regex.Matcher;
import java.util.regex.Pattern;

/** What README.md says of its example and of the calls is so. */
public final class ReadmeTest {
    private static final Checks CHECKS = new Checks();

    public static void main(String[] args) throws Exception {
        String readme = Files.readString(Path.of("README.md"));
        example(readme);
        calls(readme);
        CHECKS.end("ReadmeTest");
    }

    private static String between(String text, String before, String behind) {
        int from = text.indexOf(before) + before.length();
        int to = text.indexOf(behind, from);
        CHECKS.holds("README.md has " + before, from >= before.length() && to >= from);
        return to < from ? "" : text.substring(from, to);
    }

    private static void example(String readme) {
        String file = between(readme, "String file = \"", "\";").replace("\\n", "\n");
        RepairScan x = new RepairScan();
        Checks.feed(x, file);
        CHECKS.same("objects", between(readme, "x.scan();                       // ", " objects"), "" + x.scan());
        String mends = between(readme, "}                               // ", "\n").replace(" at ", "@").replace(",", "");
        CHECKS.same("mends", mends, Checks.mends(x));
        CHECKS.same("catalogue", between(readme, "x.catalogue();                  // ", ","), "" + x.catalogue());
        CHECKS.same("whole", between(readme, "x.whole(1);                     // ", ":"), "" + x.whole(1));
        CHECKS.same("data", between(readme, "x.stream(2, -1);                // ", " bytes"), "" + x.stream(2, -1));
        CHECKS.same("again", between(readme, "x.again();                      // ", " mends"), "" + x.again());
        CHECKS.same("written", between(readme, "```text\n", "```"), Checks.written(x));
    }

    /** Each public method stands in a line of its own. */
    private static void calls(String readme) {
        for (java.lang.reflect.Method method : RepairScan.class.getDeclaredMethods()) {
            if (java.lang.reflect.Modifier.isPublic(method.getModifiers())) {
                Matcher line = Pattern.compile("(?m)^\\| `x\\." + method.getName() + "\\((.*?)\\)` \\|.*$").matcher(readme);
                boolean stands = line.find();
                CHECKS.holds("a line for " + method.getName(), stands);
                int count = !stands || line.group(1).isEmpty() ? 0 : line.group(1).split(",").length;
                CHECKS.same("arguments of " + method.getName(), method.getParameterCount(), count);
                for (Class<?> thrown : method.getExceptionTypes()) {
                    CHECKS.holds(method.getName() + " throws " + thrown, stands && line.group().contains(thrown.getSimpleName()));
                }
            }
        }
    }
}
