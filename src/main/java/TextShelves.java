/**
 * Eight shelves with plain texts, the pieces of the text that was parted last, and two images of
 * them all. The document of the promises says what each call answers; here stands only what it
 * leaves open.
 */
public final class TextShelves {
    public static final int NONE = -1;
    public static final int UNFIT = -1000001, BEYOND = -1000002, BAD = -1000003, FULL = -1000004;

    private static final int SHELVES = 8;
    private static final int IMAGES = 2;
    private static final int MOST_SIGNS = 300;
    private static final int LAST_SIGN = 127;
    private static final int MOST_FED = 8;
    private static final int MOST_DIGITS = 19;
    private static final int BITS_OF_A_BYTE = 8;
    private static final int COMMA = ',';
    private static final String NO_PARTERS = ".$|()[{^?*+\\";

    private final Image now;
    private final Image[] kept;
    // A text is made here and laid only then, as TO can be a shelf that is still being read. The
    // rows have room for two texts, since holds() looks at texts that no shelf could take.
    private final Text made;
    private final Text twice;
    private final Pieces trial;

    public TextShelves() {
        now = new Image();
        kept = new Image[IMAGES];
        for (int i = 0; i < IMAGES; i++) {
            kept[i] = new Image();
        }
        made = new Text(2 * MOST_SIGNS);
        twice = new Text(2 * MOST_SIGNS);
        trial = new Pieces();
    }

    // ---- shelves

    public int wipe(int shelf) {
        Text text = now.text(shelf);
        int had = text.size();
        text.clear();
        return had;
    }

    public int type(int shelf, int sign) {
        Text text = now.text(shelf);
        if (!isSign(sign)) {
            return UNFIT;
        }
        if (text.size() >= MOST_SIGNS) {
            return FULL;
        }
        text.add(sign);
        return text.size();
    }

    public int feed(int shelf, long signs, int n) {
        Text text = now.text(shelf);
        if (n < 1 || n > MOST_FED || !areSigns(signs, n)) {
            return UNFIT;
        }
        if (text.size() + n > MOST_SIGNS) {
            return FULL;
        }
        for (int i = 0; i < n; i++) {
            text.add(byteOf(signs, i));
        }
        return text.size();
    }

    public int copy(int shelf, int to) {
        made.become(now.text(shelf));
        return lay(to);
    }

    public int swap(int shelf, int other) {
        now.exchange(shelf, other);
        return now.text(shelf).size();
    }

    public int concat(int shelf, int other, int to) {
        Text front = now.text(shelf);
        Text rear = now.text(other);
        if (front.size() + rear.size() > MOST_SIGNS) {
            return FULL;
        }
        made.become(front);
        made.addText(rear);
        return lay(to);
    }

    public int substring(int shelf, int from, int until, int to) {
        Text text = now.text(shelf);
        if (from < 0 || until > text.size() || from > until) {
            return BEYOND;
        }
        made.clear();
        made.addSpan(text, from, until);
        return lay(to);
    }

    public int tail(int shelf, int from, int to) {
        return substring(shelf, from, now.text(shelf).size(), to);
    }

    public int number(int value, int to) {
        return big(value, to);
    }

    public int big(long value, int to) {
        twice.clear();
        twice.addDigitsFromLowest(value);
        if (value < 0) {
            twice.add('-');
        }
        made.clear();
        made.addTurned(twice);
        return lay(to);
    }

    // ---- what is asked of one text

    public int length(int shelf) {
        return now.text(shelf).size();
    }

    public boolean isEmpty(int shelf) {
        return now.text(shelf).size() == 0;
    }

    public boolean isBlank(int shelf) {
        Text text = now.text(shelf);
        return text.endOfFront(true) == text.size();
    }

    public int charAt(int shelf, int place) {
        Text text = now.text(shelf);
        if (place < 0 || place >= text.size()) {
            return BEYOND;
        }
        return text.at(place);
    }

    public int hash(int shelf) {
        Text text = now.text(shelf);
        int h = 0;
        for (int i = 0; i < text.size(); i++) {
            h = 31 * h + text.at(i);
        }
        return h;
    }

    public int first(int shelf, int sign) {
        return firstFrom(shelf, sign, 0);
    }

    public int firstFrom(int shelf, int sign, int from) {
        return now.text(shelf).signFrom(sign, from);
    }

    public int last(int shelf, int sign) {
        return lastFrom(shelf, sign, MOST_SIGNS);
    }

    public int lastFrom(int shelf, int sign, int from) {
        return now.text(shelf).signBack(sign, from);
    }

    // ---- what is asked of two texts

    public int find(int shelf, int other) {
        return findFrom(shelf, other, 0);
    }

    public int findFrom(int shelf, int other, int from) {
        return now.text(shelf).placeFrom(now.text(other), from);
    }

    public int findLast(int shelf, int other) {
        return findLastFrom(shelf, other, MOST_SIGNS);
    }

    public int findLastFrom(int shelf, int other, int from) {
        return now.text(shelf).placeBack(now.text(other), from);
    }

    public boolean contains(int shelf, int other) {
        return find(shelf, other) != NONE;
    }

    public boolean starts(int shelf, int other) {
        return startsAt(shelf, other, 0);
    }

    public boolean startsAt(int shelf, int other, int place) {
        return now.text(shelf).bears(now.text(other), place);
    }

    public boolean ends(int shelf, int other) {
        return startsAt(shelf, other, length(shelf) - length(other));
    }

    public boolean region(int shelf, int place, int other, int otherPlace, int n) {
        return now.text(shelf).agrees(place, now.text(other), otherPlace, n, true);
    }

    public boolean regionAlike(int shelf, int place, int other, int otherPlace, int n) {
        return now.text(shelf).agrees(place, now.text(other), otherPlace, n, false);
    }

    public boolean same(int shelf, int other) {
        return now.text(shelf).agreesWholly(now.text(other), true);
    }

    public boolean alike(int shelf, int other) {
        return now.text(shelf).agreesWholly(now.text(other), false);
    }

    public int compare(int shelf, int other) {
        return now.text(shelf).order(now.text(other), true);
    }

    public int compareAlike(int shelf, int other) {
        return Integer.compare(now.text(shelf).order(now.text(other), false), 0);
    }

    // ---- texts made of texts

    public int replaceSign(int shelf, int sign, int other, int to) {
        if (!isSign(sign) || !isSign(other)) {
            return UNFIT;
        }
        made.become(now.text(shelf));
        made.change(sign, other);
        return lay(to);
    }

    public int replaceText(int shelf, int other, int third, int to) {
        Text text = now.text(shelf);
        Text piece = now.text(other);
        Text by = now.text(third);
        if (piece.size() == 0) {
            return UNFIT;
        }
        if (text.size() + text.finds(piece) * (by.size() - piece.size()) > MOST_SIGNS) {
            return FULL;
        }
        made.clear();
        made.addReplaced(text, piece, by);
        return lay(to);
    }

    public int trim(int shelf, int to) {
        return layBare(shelf, false, to);
    }

    public int strip(int shelf, int to) {
        return layBare(shelf, true, to);
    }

    public int repeat(int shelf, int times, int to) {
        Text text = now.text(shelf);
        if (times < 0) {
            return BAD;
        }
        if ((long) text.size() * times > MOST_SIGNS) {
            return FULL;
        }
        made.clear();
        // Of an empty text any number of times is told, but none makes a difference.
        int due = text.size() == 0 ? 0 : times;
        for (int i = 0; i < due; i++) {
            made.addText(text);
        }
        return lay(to);
    }

    public int turn(int shelf, int to) {
        made.clear();
        made.addTurned(now.text(shelf));
        return lay(to);
    }

    // ---- pieces

    public int part(int shelf, int sign, int limit) {
        if (!isSign(sign) || NO_PARTERS.indexOf((char) sign) >= 0) {
            return UNFIT;
        }
        now.parts.partAnew(now.text(shelf), sign, limit);
        return now.parts.size();
    }

    public int pieces() {
        return now.parts.size();
    }

    public int piece(int piece, int to) {
        if (piece < 0 || piece >= now.parts.size()) {
            return BEYOND;
        }
        made.clear();
        now.parts.addPieceTo(made, piece);
        return lay(to);
    }

    public int join(int sign, int to) {
        if (!isSign(sign)) {
            return UNFIT;
        }
        if (now.parts.sizeJoined() > MOST_SIGNS) {
            return FULL;
        }
        made.clear();
        now.parts.addJoinedTo(made, sign);
        return lay(to);
    }

    // ---- all together

    public int count(int shelf, int other) {
        Text piece = now.text(other);
        if (piece.size() == 0) {
            return UNFIT;
        }
        return now.text(shelf).finds(piece);
    }

    public int head(int shelf, int other) {
        return now.text(shelf).sharedFront(now.text(other));
    }

    public int foot(int shelf, int other) {
        return now.text(shelf).sharedRear(now.text(other));
    }

    public boolean holds(int shelf, int other, int from) {
        return firstPlaceHolds(shelf, other, from)
            && lastPlaceHolds(shelf, other, from)
            && orderHolds(shelf, other)
            && replacingHolds(now.text(shelf), now.text(other))
            && partingHolds(now.text(shelf))
            && partingHolds(now.text(other));
    }

    public int keep(int image) {
        kept[Math.floorMod(image, IMAGES)].become(now);
        return now.sizeOfTexts();
    }

    public int back(int image) {
        now.become(kept[Math.floorMod(image, IMAGES)]);
        return now.sizeOfTexts();
    }

    public long digest() {
        long h = 17;
        for (int i = 0; i < SHELVES; i++) {
            Text text = now.text(i);
            h = text.foldSpan(h, 0, text.size());
        }
        return now.parts.foldAll(h);
    }

    private int lay(int to) {
        Text text = now.text(to);
        text.become(made);
        return text.size();
    }

    private int layBare(int shelf, boolean blankAlone, int to) {
        Text text = now.text(shelf);
        int from = text.endOfFront(blankAlone);
        made.clear();
        made.addSpan(text, from, text.startOfRear(from, blankAlone));
        return lay(to);
    }

    private boolean firstPlaceHolds(int shelf, int other, int from) {
        int start = Math.max(0, Math.min(from, length(shelf)));
        int found = findFrom(shelf, other, from);
        int end = found == NONE ? length(shelf) + 1 : found;
        for (int place = start; place < end; place++) {
            if (startsAt(shelf, other, place)) {
                return false;
            }
        }
        return found == NONE || found >= start && startsAt(shelf, other, found);
    }

    private boolean lastPlaceHolds(int shelf, int other, int from) {
        int start = Math.min(from, length(shelf));
        int found = findLastFrom(shelf, other, from);
        for (int place = start; place >= 0 && place > found; place--) {
            if (startsAt(shelf, other, place)) {
                return false;
            }
        }
        return found == NONE || found <= start && startsAt(shelf, other, found);
    }

    private boolean orderHolds(int shelf, int other) {
        int order = compare(shelf, other);
        if (order != -compare(other, shelf) || (order == 0) != same(shelf, other)) {
            return false;
        }
        int shared = head(shelf, other);
        if (shared < length(shelf) && shared < length(other)) {
            return order == charAt(shelf, shared) - charAt(other, shared);
        }
        return order == length(shelf) - length(other);
    }

    private boolean replacingHolds(Text text, Text piece) {
        if (piece.size() == 0) {
            return true;
        }
        made.clear();
        made.addReplaced(text, piece, piece);
        if (!made.agreesWholly(text, true)) {
            return false;
        }
        twice.become(piece);
        twice.addText(piece);
        made.clear();
        made.addReplaced(text, piece, twice);
        return made.size() == text.size() + text.finds(piece) * piece.size();
    }

    private boolean partingHolds(Text text) {
        trial.partAnew(text, COMMA, -1);
        made.clear();
        trial.addJoinedTo(made, COMMA);
        return made.agreesWholly(text, true);
    }

    private static boolean isSign(int sign) {
        return sign >= 0 && sign <= LAST_SIGN;
    }

    private static boolean areSigns(long signs, int n) {
        for (int i = 0; i < n; i++) {
            if (!isSign(byteOf(signs, i))) {
                return false;
            }
        }
        return true;
    }

    private static int byteOf(long signs, int i) {
        return (int) (signs >>> (BITS_OF_A_BYTE * i)) & 0xff;
    }

    private static boolean isBlankSign(int sign) {
        return sign >= 9 && sign <= 13 || sign >= 28 && sign <= 32;
    }

    private static boolean isLoose(int sign, boolean blankAlone) {
        return blankAlone ? isBlankSign(sign) : sign <= ' ';
    }

    private static int asTold(int sign, boolean caseTold) {
        boolean capital = sign >= 'A' && sign <= 'Z';
        return capital && !caseTold ? sign - 'A' + 'a' : sign;
    }

    /** A row of signs; what its room can't take is not added, so the callers ask ahead. */
    private static final class Text {
        private final int[] signs;
        private int size;

        Text(int room) {
            signs = new int[Math.max(0, room)];
        }

        int size() {
            return size;
        }

        int at(int place) {
            if (place < 0 || place >= size) {
                return NONE;
            }
            return signs[place];
        }

        void clear() {
            size = 0;
        }

        void add(int sign) {
            if (size < signs.length) {
                signs[size] = sign;
                size++;
            }
        }

        void addSpan(Text other, int from, int until) {
            for (int i = from; i < until; i++) {
                add(other.at(i));
            }
        }

        void addText(Text other) {
            addSpan(other, 0, other.size);
        }

        void addTurned(Text other) {
            for (int i = other.size - 1; i >= 0; i--) {
                add(other.at(i));
            }
        }

        // The digit is told after the remainder: the least long has no positive counterpart.
        void addDigitsFromLowest(long value) {
            long rest = value;
            for (int i = 0; i < MOST_DIGITS && (i == 0 || rest != 0); i++) {
                add('0' + (int) Math.abs(rest % 10));
                rest = rest / 10;
            }
        }

        void addReplaced(Text text, Text piece, Text by) {
            int place = 0;
            while (place < text.size) {
                if (text.bears(piece, place)) {
                    addText(by);
                    place += Math.max(1, piece.size);
                } else {
                    add(text.at(place));
                    place++;
                }
            }
        }

        void become(Text other) {
            clear();
            addText(other);
        }

        void change(int sign, int other) {
            for (int i = 0; i < size && i < signs.length; i++) {
                if (signs[i] == sign) {
                    signs[i] = other;
                }
            }
        }

        int signFrom(int sign, int from) {
            for (int place = Math.max(0, from); place < size; place++) {
                if (at(place) == sign) {
                    return place;
                }
            }
            return NONE;
        }

        int signBack(int sign, int from) {
            for (int place = Math.min(from, size - 1); place >= 0; place--) {
                if (at(place) == sign) {
                    return place;
                }
            }
            return NONE;
        }

        int placeFrom(Text other, int from) {
            int start = Math.max(0, Math.min(from, size));
            for (int place = start; place <= size - other.size; place++) {
                if (bears(other, place)) {
                    return place;
                }
            }
            return NONE;
        }

        int placeBack(Text other, int from) {
            for (int place = Math.min(from, size - other.size); place >= 0; place--) {
                if (bears(other, place)) {
                    return place;
                }
            }
            return NONE;
        }

        boolean bears(Text other, int place) {
            return agrees(place, other, 0, other.size, true);
        }

        boolean agreesWholly(Text other, boolean caseTold) {
            return size == other.size && agrees(0, other, 0, size, caseTold);
        }

        boolean agrees(int place, Text other, int otherPlace, int n, boolean caseTold) {
            if (place < 0 || otherPlace < 0) {
                return false;
            }
            if ((long) place + n > size || (long) otherPlace + n > other.size) {
                return false;
            }
            for (int i = 0; i < n; i++) {
                int mine = asTold(at(place + i), caseTold);
                if (mine != asTold(other.at(otherPlace + i), caseTold)) {
                    return false;
                }
            }
            return true;
        }

        int order(Text other, boolean caseTold) {
            for (int i = 0; i < size && i < other.size; i++) {
                int less = asTold(at(i), caseTold) - asTold(other.at(i), caseTold);
                if (less != 0) {
                    return less;
                }
            }
            return size - other.size;
        }

        int finds(Text piece) {
            int finds = 0;
            int place = 0;
            while (place < size) {
                if (bears(piece, place)) {
                    finds++;
                    place += Math.max(1, piece.size);
                } else {
                    place++;
                }
            }
            return finds;
        }

        int sharedFront(Text other) {
            int most = Math.min(size, other.size);
            int shared = 0;
            while (shared < most && at(shared) == other.at(shared)) {
                shared++;
            }
            return shared;
        }

        int sharedRear(Text other) {
            int most = Math.min(size, other.size);
            int shared = 0;
            while (shared < most && at(size - 1 - shared) == other.at(other.size - 1 - shared)) {
                shared++;
            }
            return shared;
        }

        int endOfFront(boolean blankAlone) {
            int end = 0;
            while (end < size && isLoose(at(end), blankAlone)) {
                end++;
            }
            return end;
        }

        int startOfRear(int front, boolean blankAlone) {
            int start = size;
            while (start > front && isLoose(at(start - 1), blankAlone)) {
                start--;
            }
            return start;
        }

        long foldSpan(long h, int from, int until) {
            long folded = 31 * h + (until - from);
            for (int i = from; i < until; i++) {
                folded = 31 * folded + at(i);
            }
            return folded;
        }
    }

    /** All pieces stand in one row, one behind the other: together they are no longer than a text. */
    private static final class Pieces {
        private final Text all;
        private final int[] ends;
        private int size;

        Pieces() {
            all = new Text(MOST_SIGNS);
            ends = new int[MOST_SIGNS + 1];
        }

        int size() {
            return size;
        }

        void partAnew(Text text, int sign, int limit) {
            all.clear();
            size = 0;
            for (int i = 0; i < text.size(); i++) {
                if (text.at(i) == sign && (limit <= 0 || size < limit - 1)) {
                    endPiece();
                } else {
                    all.add(text.at(i));
                }
            }
            endPiece();
            if (limit == 0 && size > 1) {
                leaveOutEmptyEnd();
            }
        }

        void addPieceTo(Text text, int piece) {
            text.addSpan(all, startOf(piece), endOf(piece));
        }

        void addJoinedTo(Text text, int sign) {
            for (int i = 0; i < size; i++) {
                if (i > 0) {
                    text.add(sign);
                }
                addPieceTo(text, i);
            }
        }

        int sizeJoined() {
            return all.size() + Math.max(0, size - 1);
        }

        void become(Pieces other) {
            all.become(other.all);
            size = 0;
            for (int i = 0; i < other.size; i++) {
                addEnd(other.endOf(i));
            }
        }

        long foldAll(long h) {
            long folded = h;
            for (int i = 0; i < size; i++) {
                folded = all.foldSpan(folded, startOf(i), endOf(i));
            }
            return folded;
        }

        private void endPiece() {
            addEnd(all.size());
        }

        private void addEnd(int end) {
            if (size < ends.length) {
                ends[size] = end;
                size++;
            }
        }

        private void leaveOutEmptyEnd() {
            while (size > 0 && startOf(size - 1) == endOf(size - 1)) {
                size--;
            }
        }

        private int startOf(int piece) {
            return endOf(piece - 1);
        }

        private int endOf(int piece) {
            if (piece < 0 || piece >= size) {
                return 0;
            }
            return ends[piece];
        }
    }

    /** All that keep() keeps, and so also what the shelves and pieces are now. */
    private static final class Image {
        private final Text[] texts;
        private final Pieces parts;

        Image() {
            texts = new Text[SHELVES];
            for (int i = 0; i < SHELVES; i++) {
                texts[i] = new Text(MOST_SIGNS);
            }
            parts = new Pieces();
        }

        Text text(int shelf) {
            return texts[Math.floorMod(shelf, SHELVES)];
        }

        void exchange(int shelf, int other) {
            Text text = text(shelf);
            texts[Math.floorMod(shelf, SHELVES)] = text(other);
            texts[Math.floorMod(other, SHELVES)] = text;
        }

        void become(Image other) {
            for (int i = 0; i < SHELVES; i++) {
                texts[i].become(other.texts[i]);
            }
            parts.become(other.parts);
        }

        int sizeOfTexts() {
            int sum = 0;
            for (int i = 0; i < SHELVES; i++) {
                sum += texts[i].size();
            }
            return sum;
        }
    }
}
