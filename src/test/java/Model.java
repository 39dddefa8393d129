import java.util.ArrayList;
import java.util.HashSet;
import java.util.List;
import java.util.Map;
import java.util.Set;
import java.util.TreeMap;
import java.util.regex.Matcher;
import java.util.regex.Pattern;

/**
 * The document once more, with patterns over a text in place of rows of tokens and going down by
 * recursion, so that it does not share the faults of RepairScan.
 */
final class Model {
    private static final String REGULAR = "[^\\x00-\\x20()<>\\[\\]{}/%]";
    private static final String PASSED = "(?:[\\x00-\\x20]|%[^\\n]*+)*+";
    private static final String NUMBER = "([0-9]{1,6})(?!" + REGULAR + ")";
    private static final Pattern BLANKS = Pattern.compile(PASSED);
    private static final Pattern TOKEN = Pattern.compile(
            "<<|>>|[\\[\\]<>){}]|/" + REGULAR + "*+|\\([^)]*+\\)?+|" + REGULAR + "++");
    private static final Pattern HEAD = Pattern.compile(
            NUMBER + PASSED + NUMBER + PASSED + "obj(?!" + REGULAR + ")");
    private static final Pattern REFERENCE = Pattern.compile(
            NUMBER + PASSED + NUMBER + PASSED + "R(?!" + REGULAR + ")");
    private static final Pattern NUMBER_ALONE = Pattern.compile("[0-9]{1,6}");

    /** A value: the bytes it takes and the references in it (target, from, to). */
    static final class Value {
        int from;
        int to;
        final List<int[]> references = new ArrayList<>();
    }

    static final class Pair {
        String name;
        int from;
        Value value;
    }

    static final class Thing {
        int number;
        int head;
        int text;
        int end;
        boolean byWord;
        boolean hasStream;
        boolean byLength;
        int dataFrom;
        int dataTo;
        int inside;
        int closed = -1;
        final List<Pair> pairs = new ArrayList<>();

        List<int[]> references() {
            List<int[]> all = new ArrayList<>();
            for (Pair pair : pairs) {
                all.addAll(pair.value.references);
            }
            return all;
        }

        Value value(String name) {
            Value last = null;
            for (Pair pair : pairs) {
                if (pair.name.equals(name)) {
                    last = pair.value;
                }
            }
            return last;
        }
    }

    final String all;
    final Map<Integer, Thing> things = new TreeMap<>();
    final List<String> mends = new ArrayList<>();
    final List<Integer> twice = new ArrayList<>();
    final List<Integer> pages = new ArrayList<>();
    int cut = 0;
    int root = 0;
    int size = 0;
    int catalogue = 0;

    Model(String all) {
        this.all = all;
        if (!all.startsWith("%P")) {
            mends.add("9@0");
        }
        goThrough();
        lookAtAll();
    }

    private Matcher at(Pattern pattern, int place) {
        Matcher matcher = pattern.matcher(all).region(place, all.length());
        matcher.useTransparentBounds(true);
        return matcher.lookingAt() ? matcher : null;
    }

    private int pass(int place) {
        return at(BLANKS, place).end();
    }

    private String token(int place) {
        Matcher matcher = at(TOKEN, place);
        return matcher == null ? "" : matcher.group();
    }

    private Matcher head(int place) {
        Matcher matcher = at(HEAD, place);
        if (matcher == null) {
            return null;
        }
        int number = Integer.parseInt(matcher.group(1));
        return number >= 1 && number <= 60 ? matcher : null;
    }

    private boolean ends(int place) {
        String token = token(place);
        return token.isEmpty() || token.equals("endobj") || token.equals("trailer") || head(place) != null;
    }

    private void goThrough() {
        Thing open = null;
        int place = pass(0);
        while (place < all.length()) {
            Matcher head = head(place);
            String token = token(place);
            if (head != null || token.equals("trailer")) {
                if (open != null) {
                    mends.add("1@" + place);
                    put(open, place);
                    open = null;
                }
            }
            if (head != null) {
                open = new Thing();
                open.number = Integer.parseInt(head.group(1));
                open.head = place;
                open.text = head.end();
                place = begin(open);
                if (place < 0) {
                    open = null;
                    place = all.length();
                }
            } else {
                place += token.length();
                if (token.equals("trailer")) {
                    readTrailer(place);
                } else if (token.equals("endobj") && open != null) {
                    open.byWord = true;
                    put(open, place - token.length());
                    open = null;
                }
            }
            place = pass(place);
        }
        if (open != null && open.hasStream) {
            mends.add("1@" + all.length());
            put(open, all.length());
        } else if (open != null) {
            cut = open.number;
            mends.add("10@" + open.head);
        }
    }

    /** Where the going through goes on, or -1 when the object has ended with all bytes. */
    private int begin(Thing it) {
        readPairs(it, it.text, true);
        if (it.closed < 0) {
            return it.text;
        }
        int word = pass(it.closed);
        if (!token(word).equals("stream") || !all.startsWith("\n", word + 6)) {
            return it.text;
        }
        it.hasStream = true;
        it.dataFrom = word + 7;
        int length = number(it.value("/Length"));
        if (length >= 0) {
            it.dataTo = it.dataFrom + length;
            for (String between : new String[] {"", "\n"}) {
                if (all.startsWith(between + "endstream", it.dataTo)) {
                    it.byLength = true;
                    return it.dataTo + between.length() + 9;
                }
            }
        }
        mends.add("3@" + it.dataFrom);
        int end = all.indexOf("endstream", it.dataFrom);
        if (end < 0) {
            mends.add("2@" + it.dataFrom);
            it.dataTo = all.length();
            put(it, all.length());
            return -1;
        }
        String data = all.substring(it.dataFrom, end);
        it.dataTo = data.endsWith("\n") ? end - 1 : end;
        return end + 9;
    }

    private void readTrailer(int place) {
        Thing it = new Thing();
        readPairs(it, place, false);
        root = reference(it.value("/Root")) > 0 ? reference(it.value("/Root")) : root;
        size = number(it.value("/Size")) >= 0 ? number(it.value("/Size")) : size;
    }

    private void readPairs(Thing it, int from, boolean within) {
        int place = pass(from);
        if (!token(place).equals("<<")) {
            return;
        }
        it.inside = place + 2;
        place = pass(place + 2);
        while (!stops(place, within)) {
            String token = token(place);
            if (token.equals(">>")) {
                it.closed = place + 2;
                return;
            }
            int next = pass(place + token.length());
            if (token.startsWith("/") && !stops(next, within) && !token(next).equals(">>")) {
                Pair pair = new Pair();
                pair.name = token;
                pair.from = place;
                pair.value = readValue(next, within);
                it.pairs.add(pair);
                next = pass(pair.value.to);
            }
            place = next;
        }
    }

    private boolean stops(int place, boolean within) {
        return place >= all.length() || within && ends(place);
    }

    private Value readValue(int place, boolean within) {
        Value value = new Value();
        value.from = place;
        Matcher reference = at(REFERENCE, place);
        String token = token(place);
        if (reference != null) {
            value.to = reference.end();
            keep(value, reference, place);
        } else if (token.equals("[")) {
            value.to = nested(value, place, "[", "]", within);
        } else if (token.equals("<<")) {
            value.to = nested(value, place, "<<", ">>", within);
        } else {
            value.to = place + token.length();
        }
        return value;
    }

    private void keep(Value value, Matcher reference, int place) {
        value.references.add(new int[] {Integer.parseInt(reference.group(1)), place, reference.end()});
    }

    /** The place behind the closing one of the opening token at a place. */
    private int nested(Value value, int from, String opening, String closing, boolean within) {
        int behind = from + opening.length();
        int place = pass(behind);
        while (!stops(place, within)) {
            Matcher reference = at(REFERENCE, place);
            String token = token(place);
            if (reference != null) {
                keep(value, reference, place);
                behind = reference.end();
            } else if (token.equals(opening)) {
                behind = nested(value, place, opening, closing, within);
            } else {
                behind = place + token.length();
            }
            if (token.equals(closing)) {
                return behind;
            }
            place = pass(behind);
        }
        return behind;
    }

    private void put(Thing it, int end) {
        it.end = end;
        Thing earlier = things.put(it.number, it);
        if (earlier != null) {
            mends.add("4@" + earlier.head);
            twice.add(it.number);
        }
    }

    private int number(Value value) {
        if (value == null) {
            return -1;
        }
        String text = all.substring(value.from, value.to);
        return NUMBER_ALONE.matcher(text).matches() ? Integer.parseInt(text) : -1;
    }

    private int reference(Value value) {
        boolean is = value != null && at(REFERENCE, value.from) != null;
        return is ? value.references.get(0)[0] : 0;
    }

    int kind(int number) {
        Thing it = things.get(number);
        Value type = it == null ? null : it.value("/Type");
        String name = type == null ? "" : all.substring(type.from, type.to);
        return it == null ? -1 : List.of("", "/Catalog", "/Pages", "/Page").indexOf(name) < 1 ? 0
                : List.of("", "/Catalog", "/Pages", "/Page").indexOf(name);
    }

    private void lookAtAll() {
        for (Thing it : things.values()) {
            for (int[] reference : it.references()) {
                if (!things.containsKey(reference[0])) {
                    mends.add("5@" + it.head);
                }
            }
        }
        catalogue = root;
        if (kind(root) != 1) {
            mends.add("6@0");
            catalogue = guess();
        }
        Thing it = things.get(catalogue);
        int top = it == null ? 0 : reference(it.value("/Pages"));
        if (kind(top) == 2) {
            goDown(top, new HashSet<>());
        }
        List<Integer> due = new ArrayList<>();
        for (int number : things.keySet()) {
            if (kind(number) == 3) {
                due.add(number);
            }
        }
        if (!pages.containsAll(due)) {
            mends.add("8@0");
            pages.clear();
            pages.addAll(due);
        }
    }

    private int guess() {
        int best = 0;
        long bestRank = -1;
        for (Thing it : things.values()) {
            boolean hasNode = kind(reference(it.value("/Pages"))) == 2;
            long rank = it.head + (hasNode ? 1_000_000L : 0);
            if (kind(it.number) == 1 && rank > bestRank) {
                best = it.number;
                bestRank = rank;
            }
        }
        if (best > 0) {
            mends.add("7@" + things.get(best).head);
        }
        return best;
    }

    private void goDown(int number, Set<Integer> seen) {
        if (!things.containsKey(number) || !seen.add(number)) {
            return;
        }
        Value kids = things.get(number).value("/Kids");
        if (kind(number) == 3) {
            pages.add(number);
        } else if (kind(number) == 2 && kids != null) {
            for (int[] kid : kids.references) {
                goDown(kid[0], seen);
            }
        }
    }

    String anew() {
        StringBuilder out = new StringBuilder("%P\n");
        for (Thing it : things.values()) {
            out.append(it.number).append(" 0 obj\n");
            if (it.hasStream) {
                out.append("<< /Length ").append(it.dataTo - it.dataFrom).append(' ')
                        .append(part(it, it.inside, it.closed)).append(" stream\n")
                        .append(all, it.dataFrom, it.dataTo).append("\nendstream");
            } else {
                out.append(part(it, it.text, it.end).trim());
            }
            out.append("\nendobj\n");
        }
        if (catalogue > 0) {
            out.append("trailer << /Root ").append(catalogue).append(" 0 R >>\n");
        }
        out.setLength(Math.min(out.length(), 3000));
        return out.toString();
    }

    /** The bytes from one place to another, changed from the end to the beginning so that places stay right. */
    private String part(Thing it, int from, int to) {
        StringBuilder text = new StringBuilder(all.substring(0, to));
        for (int i = it.pairs.size() - 1; i >= 0; i--) {
            Pair pair = it.pairs.get(i);
            if (it.hasStream && pair.name.equals("/Length")) {
                text.replace(pair.from, pair.value.to, "");
                continue;
            }
            for (int r = pair.value.references.size() - 1; r >= 0; r--) {
                int[] reference = pair.value.references.get(r);
                if (!things.containsKey(reference[0])) {
                    text.replace(reference[1], reference[2], "null");
                }
            }
        }
        return text.substring(from);
    }
}
