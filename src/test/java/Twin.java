/** The calls of RepairScan's face over Model: what is due of each call, an exception as its short name. */
final class Twin {
    private static final String NO_ELEMENT = "NoSuchElementException";
    private static final String NO_INDEX = "IndexOutOfBoundsException";
    private static final String DONE = "0";

    private final StringBuilder coming = new StringBuilder();
    private Model latest = null;
    private String written = "";

    String add(byte b) {
        if (coming.length() == 1500) {
            return "UnsupportedOperationException";
        }
        coming.append((char) (b & 255));
        return DONE;
    }

    String scan() {
        if (coming.length() == 0) {
            return "IllegalStateException";
        }
        latest = new Model(coming.toString());
        coming.setLength(0);
        return "" + latest.things.size();
    }

    private Model.Thing thing(int object) {
        return latest == null ? null : latest.things.get(object);
    }

    String found(int object, int what) {
        Model.Thing it = thing(object);
        if (it == null) {
            return NO_ELEMENT;
        }
        int[] all = {it.head, it.text, it.end, latest.kind(object), it.references().size()};
        return what >= 0 && what < all.length ? "" + all[what] : NO_INDEX;
    }

    String mended(int i, int what) {
        int count = latest == null ? 0 : latest.mends.size();
        if (i == -1) {
            return "" + count;
        }
        return i >= 0 && i < count && (what == 0 || what == 1) ? latest.mends.get(i).split("@")[what] : NO_INDEX;
    }

    String catalogue() {
        return latest == null ? "0" : "" + latest.catalogue;
    }

    String pages() {
        return latest == null ? "0" : "" + latest.pages.size();
    }

    String page(int i) {
        return latest != null && i >= 0 && i < latest.pages.size() ? "" + latest.pages.get(i) : NO_INDEX;
    }

    String cut() {
        return latest == null ? "0" : "" + latest.cut;
    }

    String trailer(int key) {
        if (key != 0 && key != 1) {
            return NO_INDEX;
        }
        return latest == null ? "0" : "" + (key == 0 ? latest.root : latest.size);
    }

    String stream(int object, int i) {
        Model.Thing it = thing(object);
        if (it == null || !it.hasStream) {
            return NO_ELEMENT;
        }
        String data = latest.all.substring(it.dataFrom, it.dataTo);
        return i == -1 ? "" + data.length() : byteOf(data, i);
    }

    private static String byteOf(String text, int i) {
        return i >= 0 && i < text.length() ? "" + (int) text.charAt(i) : NO_INDEX;
    }

    String whole(int object) {
        Model.Thing it = thing(object);
        if (it == null) {
            return NO_ELEMENT;
        }
        return it.byWord && (!it.hasStream || it.byLength) ? "1" : "0";
    }

    String twice(int i) {
        int count = latest == null ? 0 : latest.twice.size();
        if (i == -1) {
            return "" + count;
        }
        return i >= 0 && i < count ? "" + latest.twice.get(i) : NO_INDEX;
    }

    String again() {
        if (latest == null) {
            return "0";
        }
        written = latest.anew();
        return "" + new Model(written).mends.size();
    }

    String written(int i) {
        return i == -1 ? "" + written.length() : byteOf(written, i);
    }
}
