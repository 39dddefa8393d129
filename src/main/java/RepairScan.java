import java.util.NoSuchElementException;

/** Mends broken files of numbered objects; the numbered promises of its document say what each call does. */
public final class RepairScan {
    private static final int MOST_BYTES = 1500;
    private static final int MOST_WRITTEN = 3000;
    private static final int LAST_NUMBER = 60;
    private static final int NEW_LINE = 10;
    private static final int LAST_BLANK = 32;
    private static final int CATALOGUE_KIND = 1;
    private static final int NODE_KIND = 2;
    private static final int PAGE_KIND = 3;
    private static final String STREAM_END = "endstream";

    private ByteRow coming;
    private ByteRow taken;
    private boolean hasScanned;
    private final ByteRow anew;
    private final Survey latest;
    private final Survey aside;

    public RepairScan() {
        // Tokens are needed only while bytes are gone through, so both surveys share one row of them.
        Tokens tokens = new Tokens(MOST_WRITTEN);
        coming = new ByteRow(MOST_BYTES);
        taken = new ByteRow(MOST_BYTES);
        hasScanned = false;
        anew = new ByteRow(MOST_WRITTEN);
        latest = new Survey(tokens, MOST_BYTES);
        aside = new Survey(tokens, MOST_WRITTEN);
    }

    public void add(byte b) throws UnsupportedOperationException {
        if (coming.isFull()) {
            throw new UnsupportedOperationException("there are 1,500 bytes");
        }
        coming.append(b);
    }

    public int scan() throws IllegalStateException {
        if (coming.size() == 0) {
            throw new IllegalStateException("there are no bytes");
        }
        // The bytes are TAKEN: the row of the scan before is emptied for those that come next.
        ByteRow used = taken;
        taken = coming;
        coming = used;
        coming.clear();
        hasScanned = true;
        latest.goThrough(taken);
        latest.lookAtObjects();
        return latest.countOfKind(-1);
    }

    public long found(int object, int what) throws NoSuchElementException, IndexOutOfBoundsException {
        Found it = latest.objectAt(object);
        if (it == null) {
            throw new NoSuchElementException("there is no such object");
        }
        switch (what) {
            case 0:
                return it.head;
            case 1:
                return it.text;
            case 2:
                return it.end;
            case 3:
                return it.pairs.kind;
            case 4:
                return it.pairs.endReference - it.pairs.firstReference;
            default:
                throw new IndexOutOfBoundsException("what is 0 to 4");
        }
    }

    public int mended(int i, int what) throws IndexOutOfBoundsException {
        if (i == -1) {
            return latest.mends.count();
        }
        if (!latest.mends.has(i) || what < 0 || what > 1) {
            throw new IndexOutOfBoundsException("there is no such mend");
        }
        return what == 0 ? latest.mends.what(i) : latest.mends.from(i);
    }

    public int catalogue() {
        return latest.chosen;
    }

    public int pages() {
        return latest.walk.count();
    }

    public int page(int i) throws IndexOutOfBoundsException {
        if (i < 0 || i >= latest.walk.count()) {
            throw new IndexOutOfBoundsException("there is no such page");
        }
        return latest.walk.at(i);
    }

    public int cut() {
        return latest.cutNumber;
    }

    public int trailer(int key) throws IndexOutOfBoundsException {
        if (key < 0 || key > 1) {
            throw new IndexOutOfBoundsException("a key is 0 or 1");
        }
        return key == 0 ? latest.root : latest.sizeKey;
    }

    public int stream(int object, int i) throws NoSuchElementException, IndexOutOfBoundsException {
        Found it = latest.objectAt(object);
        if (it == null || !it.hasData) {
            throw new NoSuchElementException("there is no such stream");
        }
        int count = it.dataTo - it.dataFrom;
        if (i < -1 || i >= count) {
            throw new IndexOutOfBoundsException("there is no such byte");
        }
        return i == -1 ? count : taken.at(it.dataFrom + i);
    }

    public boolean whole(int object) throws NoSuchElementException {
        Found it = latest.objectAt(object);
        if (it == null) {
            throw new NoSuchElementException("there is no such object");
        }
        return it.endedByWord && (!it.hasData || it.dataByLength);
    }

    public int twice(int i) throws IndexOutOfBoundsException {
        if (i == -1) {
            return latest.repeats.count();
        }
        if (!latest.repeats.has(i)) {
            throw new IndexOutOfBoundsException("there is no such number");
        }
        return latest.repeats.what(i);
    }

    public int again() {
        if (!hasScanned) {
            return 0;
        }
        anew.clear();
        latest.writeTo(anew);
        aside.goThrough(anew);
        aside.lookAtObjects();
        return aside.mends.count();
    }

    public int written(int i) throws IndexOutOfBoundsException {
        if (i < -1 || i >= anew.size()) {
            throw new IndexOutOfBoundsException("there is no such byte");
        }
        return i == -1 ? anew.size() : anew.at(i);
    }

    /** A row of bytes that grows up to a bound. */
    private static final class ByteRow {
        private final byte[] row;
        private int size;

        ByteRow(int most) {
            row = new byte[Math.max(0, most)];
            size = 0;
        }

        int size() {
            return size;
        }

        boolean isFull() {
            return size >= row.length;
        }

        void clear() {
            size = 0;
        }

        /** The byte 0 .. 255 at a place, or -1 where there is none. */
        int at(int place) {
            return place < 0 || place >= size || place >= row.length ? -1 : row[place] & 255;
        }

        boolean stands(String text, int place) {
            if (place < 0 || place > size - text.length()) {
                return false;
            }
            for (int i = 0; i < text.length() && place + i < row.length; i++) {
                if ((row[place + i] & 255) != text.charAt(i)) {
                    return false;
                }
            }
            return true;
        }

        /** The place of the next such byte, or the size when there is none. */
        int placeOfByte(int b, int from) {
            for (int place = Math.max(0, from); place < size; place++) {
                if (at(place) == b) {
                    return place;
                }
            }
            return size;
        }

        /** The place of the next such text, or -1 when there is none. */
        int placeOfText(String text, int from) {
            for (int place = Math.max(0, from); place < size; place++) {
                if (stands(text, place)) {
                    return place;
                }
            }
            return -1;
        }

        void append(int b) {
            if (size >= 0 && size < row.length) {
                row[size] = (byte) b;
                size++;
            }
        }

        void appendText(String text) {
            for (int i = 0; i < text.length(); i++) {
                append(text.charAt(i));
            }
        }

        /** Appends a number 0 .. 999999. */
        void appendNumber(int number) {
            boolean begun = false;
            for (int unit = 100000; unit > 0; unit /= 10) {
                int digit = number / unit % 10;
                begun = begun || digit > 0 || unit == 1;
                if (begun) {
                    append('0' + digit);
                }
            }
        }

        void appendPart(ByteRow other, int from, int to) {
            for (int place = from; place < to; place++) {
                append(other.at(place));
            }
        }
    }

    /** The words and names that mean something. */
    private enum Spelling {
        NONE(""),
        R("R"),
        OBJ("obj"),
        ENDOBJ("endobj"),
        TRAILER("trailer"),
        STREAM("stream"),
        TYPE("/Type"),
        PAGES("/Pages"),
        KIDS("/Kids"),
        LENGTH("/Length"),
        ROOT("/Root"),
        SIZE("/Size"),
        CATALOG("/Catalog"),
        PAGE("/Page");

        private static final Spelling[] ALL = values();

        private final String text;

        Spelling(String text) {
            this.text = text;
        }

        static Spelling of(ByteRow bytes, int from, int to) {
            for (Spelling spelling : ALL) {
                if (spelling.text.length() == to - from && bytes.stands(spelling.text, from)) {
                    return spelling;
                }
            }
            return NONE;
        }
    }

    /** The tokens of a row of bytes from one place on. */
    private static final class Tokens {
        static final int END = 0;
        static final int PAIRS = 1;
        static final int PAIRS_END = 2;
        static final int LIST = 3;
        static final int LIST_END = 4;
        static final int NAME = 5;
        static final int OTHER = 6;
        private static final int MOST_DIGITS = 6;

        private final int[] kinds;
        private final int[] froms;
        private final int[] tos;
        private final int[] numbers;
        private final Spelling[] spellings;
        private ByteRow bytes;
        private int count;

        Tokens(int most) {
            int length = Math.max(0, most);
            kinds = new int[length];
            froms = new int[length];
            tos = new int[length];
            numbers = new int[length];
            spellings = new Spelling[length];
            bytes = new ByteRow(0);
            count = 0;
        }

        void read(ByteRow source, int place) {
            bytes = source;
            count = 0;
            int at = Math.max(0, place);
            for (int rounds = 0; rounds < source.size() && at < source.size(); rounds++) {
                int b = source.at(at);
                if (b <= LAST_BLANK) {
                    at++;
                } else if (b == '%') {
                    at = source.placeOfByte(NEW_LINE, at);
                } else {
                    int end = endOf(b, at);
                    keep(kindOf(b, end - at), at, end);
                    at = end;
                }
            }
        }

        private void keep(int kind, int from, int to) {
            if (count >= 0 && count < kinds.length) {
                kinds[count] = kind;
                froms[count] = from;
                tos[count] = to;
                numbers[count] = numberOf(from, to);
                spellings[count] = Spelling.of(bytes, from, to);
                count++;
            }
        }

        private int endOf(int b, int from) {
            switch (b) {
                case '(':
                    return Math.min(bytes.size(), bytes.placeOfByte(')', from) + 1);
                case '<':
                case '>':
                    return bytes.at(from + 1) == b ? from + 2 : from + 1;
                case '[':
                case ']':
                case '{':
                case '}':
                case ')':
                    return from + 1;
                default:
                    return endOfRegular(from + 1);
            }
        }

        private static int kindOf(int b, int length) {
            switch (b) {
                case '<':
                    return length == 2 ? PAIRS : OTHER;
                case '>':
                    return length == 2 ? PAIRS_END : OTHER;
                case '[':
                    return LIST;
                case ']':
                    return LIST_END;
                case '/':
                    return NAME;
                default:
                    return OTHER;
            }
        }

        private int endOfRegular(int from) {
            for (int place = from; place < bytes.size(); place++) {
                if (!isRegular(bytes.at(place))) {
                    return place;
                }
            }
            return bytes.size();
        }

        private static boolean isRegular(int b) {
            switch (b) {
                case '(':
                case ')':
                case '<':
                case '>':
                case '[':
                case ']':
                case '{':
                case '}':
                case '/':
                case '%':
                    return false;
                default:
                    return b > LAST_BLANK;
            }
        }

        /** The value of a word of one to six digits, or -1. */
        private int numberOf(int from, int to) {
            if (to <= from || to - from > MOST_DIGITS) {
                return -1;
            }
            int value = 0;
            for (int place = from; place < to; place++) {
                int digit = bytes.at(place) - '0';
                if (digit < 0 || digit > 9) {
                    return -1;
                }
                value = value * 10 + digit;
            }
            return value;
        }

        int count() {
            return count;
        }

        int kind(int i) {
            return i >= 0 && i < count && i < kinds.length ? kinds[i] : END;
        }

        int from(int i) {
            return i >= 0 && i < count && i < froms.length ? froms[i] : bytes.size();
        }

        int to(int i) {
            return i >= 0 && i < count && i < tos.length ? tos[i] : bytes.size();
        }

        /** The number that a token is, or -1. */
        int number(int i) {
            return i >= 0 && i < count && i < numbers.length ? numbers[i] : -1;
        }

        Spelling spelling(int i) {
            Spelling spelling = i >= 0 && i < count && i < spellings.length ? spellings[i] : null;
            return spelling == null ? Spelling.NONE : spelling;
        }

        boolean isReference(int i) {
            return number(i) >= 0 && number(i + 1) >= 0 && spelling(i + 2) == Spelling.R;
        }

        /** The number of the head that begins at a token, or 0. */
        int headAt(int i) {
            int number = number(i);
            boolean isHead = number >= 1 && number <= LAST_NUMBER && number(i + 1) >= 0
                    && spelling(i + 2) == Spelling.OBJ;
            return isHead ? number : 0;
        }

        /** The first token from one on that ends an object, or how many tokens there are. */
        int endOfObject(int first) {
            for (int i = first; i < count; i++) {
                Spelling word = spelling(i);
                if (word == Spelling.ENDOBJ || word == Spelling.TRAILER || headAt(i) > 0) {
                    return i;
                }
            }
            return count;
        }
    }

    /** Rows of a number and the places from which and to which it stands. */
    private static final class Marks {
        private final int[] whats;
        private final int[] froms;
        private final int[] tos;
        private int count;

        Marks(int most) {
            int length = Math.max(0, most);
            whats = new int[length];
            froms = new int[length];
            tos = new int[length];
            count = 0;
        }

        void keep(int what, int from, int to) {
            if (count >= 0 && count < whats.length) {
                whats[count] = what;
                froms[count] = from;
                tos[count] = to;
                count++;
            }
        }

        /** Forgets all but the first ones. */
        void keepFirst(int first) {
            count = Math.max(0, Math.min(count, first));
        }

        boolean has(int i) {
            return i >= 0 && i < count && i < whats.length;
        }

        int count() {
            return count;
        }

        int what(int i) {
            return has(i) ? whats[i] : 0;
        }

        int from(int i) {
            return has(i) ? froms[i] : 0;
        }

        int to(int i) {
            return has(i) ? tos[i] : 0;
        }
    }

    /** What a dictionary tells. */
    private static final class Pairs {
        private final Tokens tokens;
        private final Marks references;
        private final Marks lengths;
        private int firstReference;
        private int endReference;
        private int firstLength;
        private int endLength;
        private int inside;
        private int closer;
        private int behind;
        private int kind;
        private int node;
        private int dataLength;
        private int firstKid;
        private int endKid;
        private int root;
        private int sizeKey;

        Pairs(Tokens tokens, Marks references, Marks lengths) {
            this.tokens = tokens;
            this.references = references;
            this.lengths = lengths;
        }

        /** Reads the dictionary that begins at a token, if one does, up to its end or the end that is given. */
        void read(int first, int end) {
            clear(first);
            boolean isOpen = first < end && tokens.kind(first) == Tokens.PAIRS;
            int i = first + 1;
            for (int rounds = 0; isOpen && rounds < tokens.count() && i < end; rounds++) {
                int kindHere = tokens.kind(i);
                if (kindHere == Tokens.PAIRS_END) {
                    closer = i;
                    behind = tokens.to(i);
                    isOpen = false;
                } else {
                    i = kindHere == Tokens.NAME ? readPair(i, end) : i + 1;
                }
            }
            endReference = references.count();
            endLength = lengths.count();
        }

        private void clear(int first) {
            firstReference = references.count();
            endReference = firstReference;
            firstLength = lengths.count();
            endLength = firstLength;
            inside = tokens.to(first);
            closer = -1;
            behind = inside;
            kind = 0;
            node = 0;
            dataLength = -1;
            firstKid = 0;
            endKid = 0;
            root = 0;
            sizeKey = -1;
        }

        boolean isClosed() {
            return closer >= 0;
        }

        /** Reads a name and its value: the token behind them. */
        private int readPair(int name, int end) {
            int value = name + 1;
            if (value >= end || tokens.kind(value) == Tokens.PAIRS_END) {
                return value;
            }
            int next = endOfValue(value, end);
            int first = references.count();
            keepReferences(value, next);
            note(name, value, next, first);
            return next;
        }

        private int endOfValue(int value, int end) {
            int opener = tokens.kind(value);
            if (opener != Tokens.LIST && opener != Tokens.PAIRS) {
                return Math.min(end, tokens.isReference(value) ? value + 3 : value + 1);
            }
            int closing = opener == Tokens.LIST ? Tokens.LIST_END : Tokens.PAIRS_END;
            int depth = 0;
            for (int i = value; i < end; i++) {
                int kindHere = tokens.kind(i);
                if (kindHere == opener) {
                    depth++;
                } else if (kindHere == closing) {
                    depth--;
                }
                if (depth == 0) {
                    return i + 1;
                }
            }
            return end;
        }

        private void keepReferences(int first, int end) {
            int i = first;
            for (int rounds = first; rounds < end && i + 2 < end; rounds++) {
                if (tokens.isReference(i)) {
                    references.keep(tokens.number(i), tokens.from(i), tokens.to(i + 2));
                    i += 3;
                } else {
                    i++;
                }
            }
        }

        private void note(int name, int value, int next, int firstOfValue) {
            boolean isReference = tokens.isReference(value);
            int number = tokens.number(value);
            switch (tokens.spelling(name)) {
                case TYPE:
                    kind = kindNamed(tokens.spelling(value));
                    break;
                case PAGES:
                    node = isReference ? number : 0;
                    break;
                case KIDS:
                    firstKid = firstOfValue;
                    endKid = references.count();
                    break;
                case LENGTH:
                    dataLength = isReference ? -1 : number;
                    lengths.keep(0, tokens.from(name), tokens.to(next - 1));
                    break;
                case ROOT:
                    root = isReference ? number : 0;
                    break;
                case SIZE:
                    sizeKey = isReference ? -1 : number;
                    break;
                default:
                    break;
            }
        }

        private static int kindNamed(Spelling name) {
            if (name == Spelling.CATALOG) {
                return CATALOGUE_KIND;
            }
            if (name == Spelling.PAGES) {
                return NODE_KIND;
            }
            return name == Spelling.PAGE ? PAGE_KIND : 0;
        }
    }

    /** An object of the file. */
    private static final class Found {
        private final Pairs pairs;
        private boolean isThere;
        private int number;
        private int head;
        private int text;
        private int end;
        private boolean endedByWord;
        private boolean hasData;
        private boolean dataByLength;
        private int dataFrom;
        private int dataTo;

        Found(Pairs pairs) {
            this.pairs = pairs;
        }

        void begin(int itsNumber, int headPlace, int textPlace) {
            isThere = false;
            number = itsNumber;
            head = headPlace;
            text = textPlace;
            end = textPlace;
            endedByWord = false;
            hasData = false;
            dataByLength = false;
            dataFrom = 0;
            dataTo = 0;
        }

        void giveData(int from, int to, boolean byLength) {
            hasData = true;
            dataFrom = from;
            dataTo = to;
            dataByLength = byLength;
        }
    }

    /** All that one scan tells of a row of bytes. */
    private static final class Survey {
        private final Tokens tokens;
        private final Marks mends;
        private final Marks repeats;
        private final Marks references;
        private final Marks lengths;
        private final Found[] objects;
        private final Pairs trailerPairs;
        private final PageWalk walk;
        private ByteRow bytes;
        private Found open;
        private boolean isOpen;
        private int cutNumber;
        private int root;
        private int sizeKey;
        private int chosen;

        /** The rows have the length that so many bytes can need: a mend two bytes, a reference five, and so on. */
        Survey(Tokens tokens, int mostBytes) {
            this.tokens = tokens;
            mends = new Marks(mostBytes / 2 + 8);
            repeats = new Marks(mostBytes / 7 + 1);
            references = new Marks(mostBytes / 5 + 1);
            lengths = new Marks(mostBytes / 7 + 1);
            objects = new Found[LAST_NUMBER + 1];
            for (int i = 0; i <= LAST_NUMBER && i < objects.length; i++) {
                objects[i] = new Found(new Pairs(tokens, references, lengths));
            }
            open = new Found(new Pairs(tokens, references, lengths));
            trailerPairs = new Pairs(tokens, references, lengths);
            walk = new PageWalk();
            bytes = new ByteRow(0);
        }

        /** The object of a number, or null when it is not there. */
        Found objectAt(int number) {
            if (number < 1 || number > LAST_NUMBER || number >= objects.length) {
                return null;
            }
            Found it = objects[number];
            return it != null && it.isThere ? it : null;
        }

        /** The kind of the object of a number, or -1 when it is not there. */
        int kindOf(int number) {
            Found it = objectAt(number);
            return it == null ? -1 : it.pairs.kind;
        }

        /** How many objects are of a kind, or there at all (-1). */
        int countOfKind(int kind) {
            int count = 0;
            for (int number = 1; number <= LAST_NUMBER; number++) {
                int itsKind = kindOf(number);
                if (itsKind >= 0 && (kind < 0 || kind == itsKind)) {
                    count++;
                }
            }
            return count;
        }

        void goThrough(ByteRow source) {
            clear(source);
            if (!source.stands("%P", 0)) {
                tell(9, 0);
            }
            tokens.read(source, 0);
            int i = 0;
            for (int rounds = 0; rounds <= source.size() && tokens.kind(i) != Tokens.END; rounds++) {
                int number = tokens.headAt(i);
                Spelling word = tokens.spelling(i);
                int next = i + 1;
                if (number > 0) {
                    next = beginObject(number, i);
                } else if (word == Spelling.ENDOBJ && isOpen) {
                    finish(tokens.from(i), true);
                } else if (word == Spelling.TRAILER) {
                    closeAt(tokens.from(i));
                    readTrailer(next);
                }
                i = next;
            }
            endAtSize();
        }

        private void clear(ByteRow source) {
            bytes = source;
            mends.keepFirst(0);
            repeats.keepFirst(0);
            references.keepFirst(0);
            lengths.keepFirst(0);
            for (int i = 0; i < objects.length; i++) {
                Found it = objects[i];
                if (it != null) {
                    it.isThere = false;
                }
            }
            isOpen = false;
            cutNumber = 0;
            root = 0;
            sizeKey = 0;
            chosen = 0;
        }

        private void tell(int mend, int place) {
            mends.keep(mend, place, place);
        }

        /** Begins the object whose head is at a token: the token with which it goes on. */
        private int beginObject(int number, int headToken) {
            closeAt(tokens.from(headToken));
            int first = headToken + 3;
            open.begin(number, tokens.from(headToken), tokens.to(headToken + 2));
            isOpen = true;
            Pairs pairs = open.pairs;
            pairs.read(first, tokens.endOfObject(first));
            int word = pairs.closer + 1;
            boolean isStream = pairs.isClosed() && tokens.spelling(word) == Spelling.STREAM
                    && bytes.at(tokens.to(word)) == NEW_LINE;
            if (!isStream) {
                return first;
            }
            passData(tokens.to(word) + 1, pairs.dataLength);
            return 0;
        }

        /** Finds the data that begin at a place, and reads tokens anew behind them. */
        private void passData(int from, int length) {
            int wordPlace = wordBehind(from, length);
            if (wordPlace >= 0) {
                open.giveData(from, from + length, true);
                tokens.read(bytes, wordPlace + STREAM_END.length());
                return;
            }
            tell(3, from);
            wordPlace = bytes.placeOfText(STREAM_END, from);
            if (wordPlace >= 0) {
                boolean less = wordPlace > from && bytes.at(wordPlace - 1) == NEW_LINE;
                open.giveData(from, less ? wordPlace - 1 : wordPlace, false);
                tokens.read(bytes, wordPlace + STREAM_END.length());
                return;
            }
            tell(2, from);
            open.giveData(from, bytes.size(), false);
            finish(bytes.size(), false);
            tokens.read(bytes, bytes.size());
        }

        /** The place of endstream, if it stands behind so many bytes of data, or -1. */
        private int wordBehind(int from, int length) {
            if (length < 0) {
                return -1;
            }
            int place = from + length;
            if (bytes.stands(STREAM_END, place)) {
                return place;
            }
            return bytes.at(place) == NEW_LINE && bytes.stands(STREAM_END, place + 1) ? place + 1 : -1;
        }

        private void readTrailer(int first) {
            int referencesBefore = references.count();
            int lengthsBefore = lengths.count();
            trailerPairs.read(first, tokens.count());
            // The bytes behind are gone through for heads all the same, so the rows must have room for them.
            references.keepFirst(referencesBefore);
            lengths.keepFirst(lengthsBefore);
            if (trailerPairs.root > 0) {
                root = trailerPairs.root;
            }
            if (trailerPairs.sizeKey >= 0) {
                sizeKey = trailerPairs.sizeKey;
            }
        }

        /** Ends an open object whose own end is missing. */
        private void closeAt(int place) {
            if (isOpen) {
                tell(1, place);
                finish(place, false);
            }
        }

        private void endAtSize() {
            if (isOpen && !open.hasData) {
                isOpen = false;
                cutNumber = open.number;
                tell(10, open.head);
            }
            closeAt(bytes.size());
        }

        private void finish(int place, boolean byWord) {
            isOpen = false;
            open.end = place;
            open.endedByWord = byWord;
            int number = open.number;
            if (number < 1 || number >= objects.length || objects[number] == null) {
                return;
            }
            Found earlier = objects[number];
            if (earlier.isThere) {
                tell(4, earlier.head);
                repeats.keep(number, earlier.head, earlier.head);
            }
            open.isThere = true;
            objects[number] = open;
            // The place of the earlier one serves the next head: objects are made in constructors alone.
            open = earlier;
        }

        /** What a scan does when all bytes have been gone through. */
        void lookAtObjects() {
            tellMissing();
            chosen = kindOf(root) == CATALOGUE_KIND ? root : guessCatalogue();
            Found it = objectAt(chosen);
            walk.gather(this, it == null ? 0 : it.pairs.node);
            if (walk.count() != countOfKind(PAGE_KIND)) {
                tell(8, 0);
                walk.gatherAll(this);
            }
        }

        private void tellMissing() {
            for (int number = 1; number <= LAST_NUMBER; number++) {
                Found it = objectAt(number);
                if (it != null) {
                    tellMissingOf(it);
                }
            }
        }

        private void tellMissingOf(Found it) {
            for (int i = it.pairs.firstReference; i < it.pairs.endReference; i++) {
                if (objectAt(references.what(i)) == null) {
                    tell(5, it.head);
                }
            }
        }

        private int guessCatalogue() {
            tell(6, 0);
            Found best = lastCatalogue(true);
            if (best == null) {
                best = lastCatalogue(false);
            }
            if (best == null) {
                return 0;
            }
            tell(7, best.head);
            return best.number;
        }

        /** The object of kind 1 whose head comes last, among all or those with Pages of kind 2; or null. */
        private Found lastCatalogue(boolean withNode) {
            Found best = null;
            for (int number = 1; number <= LAST_NUMBER; number++) {
                Found it = objectAt(number);
                if (it != null && it.pairs.kind == CATALOGUE_KIND
                        && (!withNode || kindOf(it.pairs.node) == NODE_KIND)
                        && (best == null || it.head > best.head)) {
                    best = it;
                }
            }
            return best;
        }

        void writeTo(ByteRow out) {
            out.appendText("%P\n");
            for (int number = 1; number <= LAST_NUMBER; number++) {
                Found it = objectAt(number);
                if (it != null) {
                    out.appendNumber(number);
                    out.appendText(" 0 obj\n");
                    writeText(it, out);
                    out.appendText("\nendobj\n");
                }
            }
            if (chosen > 0) {
                out.appendText("trailer << /Root ");
                out.appendNumber(chosen);
                out.appendText(" 0 R >>\n");
            }
        }

        private void writeText(Found it, ByteRow out) {
            if (it.hasData) {
                out.appendText("<< /Length ");
                out.appendNumber(it.dataTo - it.dataFrom);
                out.append(' ');
                writePart(it, it.pairs.inside, it.pairs.behind, out);
                out.appendText(" stream\n");
                out.appendPart(bytes, it.dataFrom, it.dataTo);
                out.append(NEW_LINE);
                out.appendText(STREAM_END);
            } else {
                int from = it.text;
                int to = it.end;
                while (from < to && bytes.at(from) <= LAST_BLANK) {
                    from++;
                }
                while (to > from && bytes.at(to - 1) <= LAST_BLANK) {
                    to--;
                }
                writePart(it, from, to, out);
            }
        }

        /** Writes bytes of an object, null for references to nothing, and of a stream no pairs of Length. */
        private void writePart(Found it, int from, int to, ByteRow out) {
            Pairs pairs = it.pairs;
            int reference = pairs.firstReference;
            int pair = it.hasData ? pairs.firstLength : pairs.endLength;
            int at = from;
            int rounds = to - from + pairs.endReference - pairs.firstReference;
            for (int i = 0; i < rounds && at < to; i++) {
                if (pair < pairs.endLength && lengths.from(pair) == at) {
                    at = lengths.to(pair);
                    pair++;
                } else if (reference < pairs.endReference && references.from(reference) <= at) {
                    // One that begins before this place stood in a pair that was left out.
                    if (references.from(reference) == at && objectAt(references.what(reference)) == null) {
                        out.appendText("null");
                        at = references.to(reference);
                    }
                    reference++;
                } else {
                    out.append(bytes.at(at));
                    at++;
                }
            }
        }
    }

    /** The pages, found from the node of a catalogue on. */
    private static final class PageWalk {
        private final int[] numbers;
        private final boolean[] isSeen;
        private final int[] path;
        private final int[] nextKid;
        private int count;
        private int depth;

        PageWalk() {
            numbers = new int[LAST_NUMBER];
            isSeen = new boolean[LAST_NUMBER + 1];
            path = new int[LAST_NUMBER];
            nextKid = new int[LAST_NUMBER];
            count = 0;
            depth = 0;
        }

        int count() {
            return count;
        }

        int at(int i) {
            return i >= 0 && i < count && i < numbers.length ? numbers[i] : 0;
        }

        private void clear() {
            count = 0;
            depth = 0;
            for (int i = 0; i < isSeen.length; i++) {
                isSeen[i] = false;
            }
        }

        private void keep(int number) {
            if (count >= 0 && count < numbers.length) {
                numbers[count] = number;
                count++;
            }
        }

        /** Gathers all objects of the kind of pages, by their numbers. */
        void gatherAll(Survey survey) {
            clear();
            for (int number = 1; number <= LAST_NUMBER; number++) {
                if (survey.kindOf(number) == PAGE_KIND) {
                    keep(number);
                }
            }
        }

        /** Goes down from a node; the path holds the nodes that are not done yet, in place of a recursion. */
        void gather(Survey survey, int top) {
            clear();
            meet(survey, survey.kindOf(top) == NODE_KIND ? top : 0);
            // Each round uses up a reference or leaves one of the nodes, which are met once each.
            int rounds = survey.references.count() + LAST_NUMBER;
            for (int i = 0; i < rounds && depth > 0 && depth <= path.length; i++) {
                Found node = survey.objectAt(path[depth - 1]);
                int kid = nextKid[depth - 1];
                if (node == null || kid >= node.pairs.endKid) {
                    depth--;
                } else {
                    nextKid[depth - 1] = kid + 1;
                    meet(survey, survey.references.what(kid));
                }
            }
        }

        private void meet(Survey survey, int number) {
            Found it = survey.objectAt(number);
            if (it == null || number < 0 || number >= isSeen.length || isSeen[number]) {
                return;
            }
            isSeen[number] = true;
            if (it.pairs.kind == PAGE_KIND) {
                keep(number);
            } else if (it.pairs.kind == NODE_KIND && depth >= 0 && depth < path.length) {
                path[depth] = number;
                nextKid[depth] = it.pairs.firstKid;
                depth++;
            }
        }
    }
}
