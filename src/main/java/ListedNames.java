import java.util.NoSuchElementException;

/**
 * A directory of names of bytes on pages. Each change is made on a draft, which begins to hold only
 * with the change's last write: so a power failure leaves all as before or as behind the change.
 */
public final class ListedNames {
    public static final int NONE = -1;
    public static final int FULL = -2;
    public static final int CUT = -3;

    private static final int MOST_ENTRIES = 24;
    private static final int ALL_PAGES = 60;
    private static final int LONGEST_NAME = 7;
    private static final int FIRST_NAME_BYTE = 65;
    private static final int FORBIDDEN_BYTE = 47;

    private Directory held = new Directory();
    private Directory draft = new Directory();
    private final Power power = new Power();
    private long nameAtHand = Row.extended(Row.EMPTY, 0, FIRST_NAME_BYTE);
    private int serialFound = NONE;
    private int latestWrites = 0;

    public ListedNames() {
    }

    public void name(long w, int n) throws IllegalArgumentException {
        if (n < 1 || n > LONGEST_NAME) {
            throw new IllegalArgumentException();
        }
        long row = Row.EMPTY;
        for (int i = 0; i < n; i++) {
            int value = (int) (w >>> (8 * i)) & 255;
            if (value == 0 || value == FORBIDDEN_BYTE) {
                throw new IllegalArgumentException();
            }
            row = Row.extended(row, i, value);
        }
        nameAtHand = row;
    }

    public int add(int target) throws IllegalStateException {
        requirePower();
        if (held.indexOfName(nameAtHand) != NONE) {
            return NONE;
        }
        if (held.hasMostEntries()) {
            return FULL;
        }
        draft.copyFrom(held);
        int given = draft.enter(nameAtHand, target);
        return carryOut(draft.pagesOfName(nameAtHand) + draft.pagesOfSerial(given), given);
    }

    public int remove() throws IllegalStateException {
        requirePower();
        int index = held.indexOfName(nameAtHand);
        if (index == NONE) {
            return NONE;
        }
        int removed = held.serialAt(index);
        draft.copyFrom(held);
        draft.drop(index);
        return carryOut(draft.pagesOfName(nameAtHand) + draft.pagesOfSerial(removed), removed);
    }

    public int replace(int target) throws IllegalStateException {
        requirePower();
        int index = held.indexOfName(nameAtHand);
        if (index == NONE) {
            return NONE;
        }
        draft.copyFrom(held);
        draft.giveTarget(index, target);
        return carryOut(draft.pagesOfName(nameAtHand), held.serialAt(index));
    }

    public int rename(int serial) throws IllegalStateException, NoSuchElementException {
        requirePower();
        int index = held.indexOfSerial(serial);
        if (index == NONE) {
            throw new NoSuchElementException();
        }
        if (held.indexOfName(nameAtHand) != NONE) {
            return NONE;
        }
        long oldName = held.nameAt(index);
        draft.copyFrom(held);
        draft.giveName(index, nameAtHand);
        int pages = draft.pagesOfNames(oldName, nameAtHand) + draft.pagesOfSerial(serial);
        return carryOut(pages, serial);
    }

    public int find() throws IllegalStateException, NoSuchElementException {
        requirePower();
        int index = held.indexOfName(nameAtHand);
        if (index == NONE) {
            throw new NoSuchElementException();
        }
        return held.targetAt(index);
    }

    public int serial() throws IllegalStateException {
        requirePower();
        return serialAtOrNone(held.indexOfName(nameAtHand));
    }

    public int next(int cookie) throws IllegalStateException {
        requirePower();
        serialFound = serialAtOrNone(held.indexAbove(cookie));
        return serialFound;
    }

    public int listed(int k, int n) throws IllegalStateException, IllegalArgumentException {
        requirePower();
        if (n < 0 || n > Row.lengthOf(nameAtHand)) {
            throw new IllegalArgumentException();
        }
        serialFound = serialAtOrNone(held.indexListed(k, nameAtHand, n));
        return serialFound;
    }

    public int rank() throws IllegalStateException {
        requirePower();
        return held.namesBefore(nameAtHand);
    }

    public long found() throws IllegalStateException {
        requirePower();
        int index = held.indexOfSerial(serialFound);
        return index == NONE ? 0 : Row.wordOf(held.nameAt(index));
    }

    public int count() throws IllegalStateException {
        requirePower();
        return held.entries();
    }

    public int free() throws IllegalStateException {
        requirePower();
        return held.freePages();
    }

    public int writes() {
        return latestWrites;
    }

    public void failAfter(int n) throws IllegalArgumentException {
        if (n < NONE) {
            throw new IllegalArgumentException();
        }
        power.allow(n);
    }

    public boolean start() {
        if (power.isSupplied()) {
            return false;
        }
        power.restore();
        serialFound = NONE;
        return true;
    }

    public boolean isOn() {
        return power.isSupplied();
    }

    private void requirePower() {
        if (!power.isSupplied()) {
            throw new IllegalStateException();
        }
    }

    private int serialAtOrNone(int index) {
        return index == NONE ? NONE : held.serialAt(index);
    }

    /** Lets the draft hold if there is room for its pages and power for them and the last write. */
    private int carryOut(int pages, int answer) {
        if (pages > held.freePages()) {
            return FULL;
        }
        latestWrites = power.write(pages + 1);
        if (latestWrites <= pages) {
            return CUT;
        }
        Directory before = held;
        held = draft;
        draft = before;
        return answer;
    }

    /** Whether power is on, and how many writes it will last. */
    private static final class Power {
        private boolean supplied = true;
        private int writesLeft = NONE;

        boolean isSupplied() {
            return supplied;
        }

        void allow(int writes) {
            writesLeft = writes;
        }

        void restore() {
            supplied = true;
            writesLeft = NONE;
        }

        /** How many of the wanted writes were made; power is off if not all were. */
        int write(int wanted) {
            if (writesLeft == NONE) {
                return wanted;
            }
            int made = Math.min(wanted, writesLeft);
            writesLeft -= made;
            supplied = made == wanted;
            return made;
        }
    }

    /**
     * A row of up to seven bytes in a long: nine bits for each, the first byte highest, each byte
     * one more than it is, so that 0 means that the row has ended. Thus rows are in order just as
     * their longs are, and a row that ends with the byte 0 is not taken for a shorter one.
     */
    private static final class Row {
        private static final long EMPTY = 0;
        private static final int BITS = 9;
        private static final int ALL_BITS = LONGEST_NAME * BITS;
        private static final int MASK = (1 << BITS) - 1;

        /** The row that has, behind its first length bytes, one byte more. */
        static long extended(long row, int length, int value) {
            return row | ((long) (value + 1) << (ALL_BITS - BITS * (length + 1)));
        }

        static long ofSerial(int serial) {
            return extended(extended(EMPTY, 0, serial / 256), 1, serial % 256);
        }

        static long beginning(long row, int length) {
            return row & (-1L << (ALL_BITS - BITS * length));
        }

        static int lengthOf(long row) {
            int length = 0;
            while (length < LONGEST_NAME && digitAt(row, length) != 0) {
                length++;
            }
            return length;
        }

        /** How many first bytes two different rows have in common. */
        static int lengthInCommon(long one, long other) {
            int length = 0;
            while (length < LONGEST_NAME && digitAt(one, length) == digitAt(other, length)) {
                length++;
            }
            return length;
        }

        /** The row's bytes, the first one lowest. */
        static long wordOf(long row) {
            int length = lengthOf(row);
            long word = 0;
            for (int i = 0; i < length; i++) {
                word |= (long) (digitAt(row, i) - 1) << (8 * i);
            }
            return word;
        }

        private static int digitAt(long row, int i) {
            return (int) (row >>> (ALL_BITS - BITS * (i + 1))) & MASK;
        }
    }

    /** A set of rows, in order, with its places. */
    private static final class RowSet {
        private final long[] rows = new long[MOST_ENTRIES];
        private int size = 0;

        void copyFrom(RowSet other) {
            size = other.size;
            System.arraycopy(other.rows, 0, rows, 0, size);
        }

        void insert(long row) {
            if (size >= MOST_ENTRIES) {
                return;
            }
            int index = rowsBefore(row);
            System.arraycopy(rows, index, rows, index + 1, size - index);
            rows[index] = row;
            size++;
        }

        void take(long row) {
            int index = rowsBefore(row);
            if (index >= size || rows[index] != row) {
                return;
            }
            size--;
            System.arraycopy(rows, index + 1, rows, index, size - index);
        }

        int rowsBefore(long row) {
            int before = 0;
            while (before < size && rows[before] < row) {
                before++;
            }
            return before;
        }

        /** The k-th of the rows that have a beginning, of so many bytes; EMPTY if there is none. */
        long rowWith(long beginning, int length, int k) {
            int first = rowsBefore(beginning);
            if (k < 0 || k >= size - first || !hasBeginning(first + k, beginning, length)) {
                return Row.EMPTY;
            }
            return rows[first + k];
        }

        int places() {
            int places = 1;
            for (int i = 0; i < size; i++) {
                int known = i == 0 ? 0 : Row.lengthInCommon(rows[i - 1], rows[i]);
                int length = Row.lengthOf(rows[i]);
                for (int m = known + 1; m <= length; m++) {
                    if (isPlace(i, m)) {
                        places++;
                    }
                }
            }
            return places;
        }

        /** How many places are beginnings of a row, of those that have at least so many bytes. */
        int placesAlong(long row, int leastLength) {
            int length = Row.lengthOf(row);
            int places = 0;
            for (int m = leastLength; m <= length; m++) {
                if (isPlaceAlong(row, m)) {
                    places++;
                }
            }
            return places;
        }

        private boolean isPlaceAlong(long row, int length) {
            if (length == 0) {
                return true;
            }
            long beginning = Row.beginning(row, length);
            int first = rowsBefore(beginning);
            return first < size && hasBeginning(first, beginning, length) && isPlace(first, length);
        }

        private boolean hasBeginning(int index, long beginning, int length) {
            return Row.beginning(rows[index], length) == beginning;
        }

        /**
         * Whether the first bytes of a row are a place; the row is the first one that begins so. The
         * rows that do stand together: if the first and the last differ in the byte behind it, the
         * beginning is the longest that these two have in common, else it is that of no two.
         */
        private boolean isPlace(int first, int length) {
            long beginning = Row.beginning(rows[first], length);
            if (rows[first] == beginning) {
                return true;
            }
            int last = first;
            while (last + 1 < size && hasBeginning(last + 1, beginning, length)) {
                last++;
            }
            return Row.beginning(rows[first], length + 1) != Row.beginning(rows[last], length + 1);
        }
    }

    /** The entries, in the order of their serials, with the places of their names and serials. */
    private static final class Directory {
        private final long[] names = new long[MOST_ENTRIES];
        private final int[] serials = new int[MOST_ENTRIES];
        private final int[] targets = new int[MOST_ENTRIES];
        private final RowSet nameRows = new RowSet();
        private final RowSet serialRows = new RowSet();
        private int size = 0;
        private int latestSerial = 0;

        void copyFrom(Directory other) {
            size = other.size;
            latestSerial = other.latestSerial;
            System.arraycopy(other.names, 0, names, 0, size);
            System.arraycopy(other.serials, 0, serials, 0, size);
            System.arraycopy(other.targets, 0, targets, 0, size);
            nameRows.copyFrom(other.nameRows);
            serialRows.copyFrom(other.serialRows);
        }

        int entries() {
            return size;
        }

        boolean hasMostEntries() {
            return size >= MOST_ENTRIES;
        }

        int serialAt(int index) {
            return serials[index];
        }

        long nameAt(int index) {
            return names[index];
        }

        int targetAt(int index) {
            return targets[index];
        }

        int indexOfName(long name) {
            for (int i = 0; i < size; i++) {
                if (names[i] == name) {
                    return i;
                }
            }
            return NONE;
        }

        int indexOfSerial(int serial) {
            for (int i = 0; i < size; i++) {
                if (serials[i] == serial) {
                    return i;
                }
            }
            return NONE;
        }

        int indexAbove(int cookie) {
            for (int i = 0; i < size; i++) {
                if (serials[i] > cookie) {
                    return i;
                }
            }
            return NONE;
        }

        int indexListed(int k, long name, int length) {
            return indexOfName(nameRows.rowWith(Row.beginning(name, length), length, k));
        }

        int namesBefore(long name) {
            return nameRows.rowsBefore(name);
        }

        /** A new entry's serial; it is the greatest one, so the entry's place is the last. */
        int enter(long name, int target) {
            if (hasMostEntries()) {
                return NONE;
            }
            latestSerial++;
            names[size] = name;
            serials[size] = latestSerial;
            targets[size] = target;
            size++;
            nameRows.insert(name);
            serialRows.insert(Row.ofSerial(latestSerial));
            return latestSerial;
        }

        void drop(int index) {
            nameRows.take(names[index]);
            serialRows.take(Row.ofSerial(serials[index]));
            size--;
            System.arraycopy(names, index + 1, names, index, size - index);
            System.arraycopy(serials, index + 1, serials, index, size - index);
            System.arraycopy(targets, index + 1, targets, index, size - index);
        }

        void giveTarget(int index, int target) {
            targets[index] = target;
        }

        void giveName(int index, long name) {
            nameRows.take(names[index]);
            nameRows.insert(name);
            names[index] = name;
        }

        int freePages() {
            return ALL_PAGES - nameRows.places() - serialRows.places();
        }

        int pagesOfName(long name) {
            return nameRows.placesAlong(name, 0);
        }

        /** The pages of two names; those of beginnings of both are written once. */
        int pagesOfNames(long one, long other) {
            int common = Row.lengthInCommon(one, other);
            return nameRows.placesAlong(one, 0) + nameRows.placesAlong(other, common + 1);
        }

        int pagesOfSerial(int serial) {
            return serialRows.placesAlong(Row.ofSerial(serial), 0);
        }
    }
}
