/**
 * Two tables joined by their keys. All arrays are made once, in the constructor, and used again: no
 * other call makes anything but the exception that it throws.
 */
public final class JoinDesk {
    public static final int NONE = -1;

    private static final int MOST_ROOM = 400;
    private static final int KINDS = 4;
    /** The bits of a kind: lone left rows are pairs too, lone right rows are pairs too. */
    private static final int LONE_LEFT = 1;
    private static final int LONE_RIGHT = 2;

    private static final int PAIR_FACTS = 5;
    private static final int GROUP_FACTS = 5;
    private static final int ROW_FACTS = 3;
    private static final int DESK_FACTS = 5;
    /** A seek may look at 80 keys, so at 40 of each table. */
    private static final int MOST_HALVES = 40;

    private final Table left;
    private final Table right;
    private final Cursor cursor;
    private final GroupBook book;
    private boolean prepared;

    public JoinDesk(int left, int right, int groups) {
        Table leftTable = new Table(roomFor(left));
        Table rightTable = new Table(roomFor(right));
        this.left = leftTable;
        this.right = rightTable;
        this.cursor = new Cursor(leftTable, rightTable);
        this.book = new GroupBook(roomFor(groups));
        this.prepared = false;
    }

    public int add(boolean left, int key, int value) throws IllegalStateException {
        Table table = tableOf(left);
        requireState(table.hasRoom());
        prepared = false;
        return table.append(key, value);
    }

    public void prepare() {
        left.sortRows();
        right.sortRows();
        left.findPartners(right);
        right.findPartners(left);
        cursor.restart();
        cursor.forgetMark();
        book.forget();
        prepared = true;
    }

    public void kind(int kind) throws IllegalArgumentException {
        requireArgument(isBelow(kind, KINDS));
        cursor.useKind(kind);
        cursor.restart();
        cursor.forgetMark();
    }

    public boolean next() throws IllegalStateException {
        requireState(prepared);
        return cursor.goOn();
    }

    public int pair(int what) throws IllegalArgumentException {
        requireArgument(isBelow(what, PAIR_FACTS));
        int leftPlace = prepared ? cursor.leftPlace() : NONE;
        int rightPlace = prepared ? cursor.rightPlace() : NONE;
        switch (what) {
            case 0:
                return left.has(leftPlace) ? left.keyAt(leftPlace) : right.keyAt(rightPlace);
            case 1:
                return left.valueAt(leftPlace);
            case 2:
                return right.valueAt(rightPlace);
            case 3:
                return left.numberAt(leftPlace);
            default:
                return right.numberAt(rightPlace);
        }
    }

    public int mark() throws IllegalStateException {
        requireState(prepared);
        return cursor.setMark();
    }

    public int back() throws IllegalStateException {
        requireState(prepared && cursor.hasMark());
        return cursor.goToMark();
    }

    public boolean seek(int key) throws IllegalStateException {
        requireState(prepared);
        return cursor.goBefore(key);
    }

    public void rewind() throws IllegalStateException {
        requireState(prepared);
        cursor.restart();
    }

    public long count(int kind) throws IllegalArgumentException, IllegalStateException {
        requireArgument(isBelow(kind, KINDS));
        requireState(prepared);
        return pairsBefore(left, right, left.size(), right.size(), kind);
    }

    public int rows(boolean left, boolean partner) throws IllegalStateException {
        requireState(prepared);
        Table table = tableOf(left);
        int lone = table.loneBefore(table.size());
        return partner ? table.size() - lone : lone;
    }

    public int groups() throws IllegalStateException, UnsupportedOperationException {
        requireState(prepared);
        if (left.groupStarts() > book.room()) {
            throw new UnsupportedOperationException("more groups than there is room for");
        }
        return book.tell(left, right);
    }

    public long group(int i, int what) throws IllegalArgumentException, IllegalStateException {
        boolean told = prepared && book.isTold();
        // How many groups there are is known once they are told: before that, any i from 0 on may be one.
        requireArgument(i >= 0 && (!told || book.has(i)) && isBelow(what, GROUP_FACTS));
        requireState(told);
        return book.fact(i, what);
    }

    public int sorted(boolean left, int i, int what) throws IllegalArgumentException, IllegalStateException {
        Table table = tableOf(left);
        requireArgument(table.has(i) && isBelow(what, ROW_FACTS));
        requireState(prepared);
        switch (what) {
            case 0:
                return table.keyAt(i);
            case 1:
                return table.valueAt(i);
            default:
                return table.numberAt(i);
        }
    }

    public long about(int what) throws IllegalArgumentException {
        requireArgument(isBelow(what, DESK_FACTS));
        switch (what) {
            case 0:
                return cursor.cellsRead();
            case 1:
                return left.size();
            case 2:
                return right.size();
            case 3:
                return prepared ? 1 : 0;
            default:
                return cursor.kindInUse();
        }
    }

    public void clear() {
        left.empty();
        right.empty();
        // CELLS READ are counted anew by prepare(), rewind() and kind() alone, so the cursor keeps them.
        cursor.useKind(0);
        prepared = false;
    }

    private Table tableOf(boolean isLeft) {
        return isLeft ? left : right;
    }

    private static int roomFor(int wished) {
        return Math.max(0, Math.min(MOST_ROOM, wished));
    }

    private static boolean isBelow(int number, int bound) {
        return number >= 0 && number < bound;
    }

    private static void requireArgument(boolean fits) {
        if (!fits) {
            throw new IllegalArgumentException("a number is not as it may be");
        }
    }

    private static void requireState(boolean fits) {
        if (!fits) {
            throw new IllegalStateException("not in this state");
        }
    }

    /** How many pairs of a kind the rows before these two sorted places make. */
    private static int pairsBefore(Table left, Table right, int leftPlace, int rightPlace, int kind) {
        int pairs = left.partnersBefore(leftPlace);
        if ((kind & LONE_LEFT) != 0) {
            pairs += left.loneBefore(leftPlace);
        }
        if ((kind & LONE_RIGHT) != 0) {
            pairs += right.loneBefore(rightPlace);
        }
        return pairs;
    }

    /** One table: its rows by their numbers, and what prepare() finds out about them by sorted places. */
    private static final class Table {
        private final int room;
        private final int[] keys;
        private final int[] values;
        /** The row numbers by sorted places. */
        private final int[] order;
        /** Sums over the rows before a sorted place, so that pairs are counted without looking at keys. */
        private final int[] partnerSums;
        private final int[] loneSums;
        /** Where in the other table the rows of this row's key begin. */
        private final int[] firstPartners;
        private int size;
        /** How many rows, from number 0 on, already have a sorted place. */
        private int placed;

        Table(int room) {
            this.room = room;
            this.keys = new int[room];
            this.values = new int[room];
            this.order = new int[room];
            this.partnerSums = new int[room + 1];
            this.loneSums = new int[room + 1];
            this.firstPartners = new int[room];
            this.size = 0;
            this.placed = 0;
        }

        int size() {
            return size;
        }

        boolean hasRoom() {
            return size < room;
        }

        boolean has(int place) {
            return place >= 0 && place < size;
        }

        int append(int key, int value) {
            if (!hasRoom()) {
                return NONE;
            }
            keys[size] = key;
            values[size] = value;
            size++;
            return size - 1;
        }

        void empty() {
            size = 0;
            placed = 0;
        }

        int keyAt(int place) {
            return has(place) ? keys[order[place]] : 0;
        }

        int valueAt(int place) {
            return has(place) ? values[order[place]] : 0;
        }

        int numberAt(int place) {
            return has(place) ? order[place] : NONE;
        }

        /** Rows that were sorted before stay sorted, so only those that came since are put in. */
        void sortRows() {
            for (int number = placed; number < size; number++) {
                putInOrder(number);
            }
            placed = size;
        }

        private void putInOrder(int number) {
            int place = number;
            // Only greater keys make way, so that equal ones stay in order of their numbers.
            while (place > 0 && keys[order[place - 1]] > keys[number]) {
                order[place] = order[place - 1];
                place--;
            }
            order[place] = number;
        }

        /** Both tables are sorted, so the partners of a row never begin before those of the row before. */
        void findPartners(Table other) {
            int first = 0;
            int behind = 0;
            for (int place = 0; place < size; place++) {
                int key = keyAt(place);
                while (first < other.size && other.keyAt(first) < key) {
                    first++;
                }
                while (behind < other.size && other.keyAt(behind) <= key) {
                    behind++;
                }
                firstPartners[place] = first;
                partnerSums[place + 1] = partnerSums[place] + behind - first;
                loneSums[place + 1] = loneSums[place] + (behind == first ? 1 : 0);
            }
        }

        int partnersBefore(int place) {
            return place >= 0 && place <= size ? partnerSums[place] : 0;
        }

        int loneBefore(int place) {
            return place >= 0 && place <= size ? loneSums[place] : 0;
        }

        int firstPartnerOf(int place) {
            return has(place) ? firstPartners[place] : 0;
        }

        boolean startsGroup(int place) {
            boolean newKey = place == 0 || keyAt(place - 1) != keyAt(place);
            return newKey && partnersBefore(place + 1) > partnersBefore(place);
        }

        int groupStarts() {
            int starts = 0;
            for (int place = 0; place < size; place++) {
                if (startsGroup(place)) {
                    starts++;
                }
            }
            return starts;
        }
    }

    /** What the group table needs to know of the values of one table's rows of one key. */
    private static final class Span {
        private int rows;
        private long sum;
        private long least;
        private long greatest;

        void measure(Table table, int from) {
            rows = 0;
            sum = 0;
            least = table.valueAt(from);
            greatest = least;
            int key = table.keyAt(from);
            for (int place = from; place < table.size() && table.keyAt(place) == key; place++) {
                long value = table.valueAt(place);
                rows++;
                sum += value;
                least = Math.min(least, value);
                greatest = Math.max(greatest, value);
            }
        }
    }

    /** The groups, once they are told. */
    private static final class GroupBook {
        private final int room;
        private final long[][] facts;
        private final Span leftSpan;
        private final Span rightSpan;
        private int size;
        private boolean told;

        GroupBook(int room) {
            this.room = room;
            this.facts = new long[GROUP_FACTS][room];
            this.leftSpan = new Span();
            this.rightSpan = new Span();
            this.size = 0;
            this.told = false;
        }

        int room() {
            return room;
        }

        boolean isTold() {
            return told;
        }

        boolean has(int i) {
            return i >= 0 && i < size;
        }

        void forget() {
            size = 0;
            told = false;
        }

        long fact(int i, int what) {
            return has(i) && isBelow(what, GROUP_FACTS) ? facts[what][i] : 0;
        }

        int tell(Table left, Table right) {
            size = 0;
            for (int place = 0; place < left.size() && size < room; place++) {
                if (left.startsGroup(place)) {
                    leftSpan.measure(left, place);
                    rightSpan.measure(right, left.firstPartnerOf(place));
                    write(size, left.keyAt(place));
                    size++;
                }
            }
            told = true;
            return size;
        }

        /** Each left value meets each right one: sums multiply, and outermost values make the outermost products. */
        private void write(int i, int key) {
            long lowLow = leftSpan.least * rightSpan.least;
            long lowHigh = leftSpan.least * rightSpan.greatest;
            long highLow = leftSpan.greatest * rightSpan.least;
            long highHigh = leftSpan.greatest * rightSpan.greatest;
            facts[0][i] = key;
            facts[1][i] = (long) leftSpan.rows * rightSpan.rows;
            facts[2][i] = leftSpan.sum * rightSpan.sum;
            facts[3][i] = Math.min(Math.min(lowLow, lowHigh), Math.min(highLow, highHigh));
            facts[4][i] = Math.max(Math.max(lowLow, lowHigh), Math.max(highLow, highHigh));
        }
    }

    /** Where a cursor is: the rows of the keys it came to last, and the pair among them, if it is at one. */
    private static final class Position {
        private int leftFrom;
        private int leftTo;
        private int rightFrom;
        private int rightTo;
        /** The sorted places of the pair's rows, NONE for a row that is not there. */
        private int leftAt;
        private int rightAt;
        /** How many pairs are before it, with the one it is at. */
        private int passed;

        Position() {
            this.leftAt = NONE;
            this.rightAt = NONE;
        }

        void copy(Position other) {
            leftFrom = other.leftFrom;
            leftTo = other.leftTo;
            rightFrom = other.rightFrom;
            rightTo = other.rightTo;
            leftAt = other.leftAt;
            rightAt = other.rightAt;
            passed = other.passed;
        }

        /** Between pairs: the next keys are those of these rows. */
        void stand(int leftPlace, int rightPlace, int pairs) {
            leftFrom = leftPlace;
            leftTo = leftPlace;
            rightFrom = rightPlace;
            rightTo = rightPlace;
            leftAt = NONE;
            rightAt = NONE;
            passed = pairs;
        }

        boolean hasLeftRows() {
            return leftFrom < leftTo;
        }

        boolean hasRightRows() {
            return rightFrom < rightTo;
        }

        boolean fits(int kind) {
            if (!hasRightRows()) {
                return (kind & LONE_LEFT) != 0;
            }
            return hasLeftRows() || (kind & LONE_RIGHT) != 0;
        }

        void enterFirstPair() {
            leftAt = hasLeftRows() ? leftFrom : NONE;
            rightAt = hasRightRows() ? rightFrom : NONE;
            passed++;
        }

        /** Whether these keys had one more pair; the cursor is at it then. */
        boolean enterNextPair() {
            if (rightAt != NONE && rightAt + 1 < rightTo) {
                rightAt++;
            } else if (leftAt != NONE && leftAt + 1 < leftTo) {
                leftAt++;
                rightAt = hasRightRows() ? rightFrom : NONE;
            } else {
                return false;
            }
            passed++;
            return true;
        }
    }

    /** Goes along the pairs, and counts the keys that it looks at. */
    private static final class Cursor {
        private final Table left;
        private final Table right;
        private final Position here;
        private final Position marked;
        private boolean hasMark;
        private int kind;
        private long cells;

        Cursor(Table left, Table right) {
            this.left = left;
            this.right = right;
            this.here = new Position();
            this.marked = new Position();
            this.hasMark = false;
            this.kind = 0;
            this.cells = 0;
        }

        int kindInUse() {
            return kind;
        }

        long cellsRead() {
            return cells;
        }

        boolean hasMark() {
            return hasMark;
        }

        int leftPlace() {
            return here.leftAt;
        }

        int rightPlace() {
            return here.rightAt;
        }

        void useKind(int wanted) {
            kind = wanted;
        }

        void forgetMark() {
            hasMark = false;
        }

        void restart() {
            here.stand(0, 0, 0);
            cells = 0;
        }

        int setMark() {
            marked.copy(here);
            hasMark = true;
            return marked.passed;
        }

        int goToMark() {
            here.copy(marked);
            return here.passed;
        }

        boolean goOn() {
            if (here.enterNextPair()) {
                return true;
            }
            // Each turn comes to at least one new row, so there are no more turns than rows ahead.
            for (int turns = rowsAhead(); turns > 0 && rowsAhead() > 0; turns--) {
                comeToNewKeys();
                if (here.fits(kind)) {
                    here.enterFirstPair();
                    return true;
                }
            }
            here.stand(here.leftTo, here.rightTo, here.passed);
            return false;
        }

        boolean goBefore(int key) {
            int leftPlace = firstNotBelow(left, key);
            int rightPlace = firstNotBelow(right, key);
            int before = pairsBefore(left, right, leftPlace, rightPlace, kind);
            here.stand(leftPlace, rightPlace, before);
            return before < pairsBefore(left, right, left.size(), right.size(), kind);
        }

        private int rowsAhead() {
            return left.size() - here.leftTo + right.size() - here.rightTo;
        }

        private void comeToNewKeys() {
            boolean takeLeft = left.has(here.leftTo);
            boolean takeRight = right.has(here.rightTo);
            if (takeLeft && takeRight) {
                int leftKey = readKey(left, here.leftTo);
                int rightKey = readKey(right, here.rightTo);
                takeLeft = leftKey <= rightKey;
                takeRight = rightKey <= leftKey;
            }
            here.leftFrom = here.leftTo;
            here.rightFrom = here.rightTo;
            if (takeLeft) {
                here.leftTo = firstOtherKey(left, here.leftFrom);
            }
            if (takeRight) {
                here.rightTo = firstOtherKey(right, here.rightFrom);
            }
        }

        private int firstOtherKey(Table table, int from) {
            int key = readKey(table, from);
            int place = from + 1;
            while (place < table.size() && readKey(table, place) == key) {
                place++;
            }
            return place;
        }

        /** By halves, in the very steps that the document tells, since the keys looked at are counted. */
        private int firstNotBelow(Table table, int key) {
            int low = 0;
            int high = table.size();
            for (int halves = 0; halves < MOST_HALVES && low < high; halves++) {
                int middle = (low + high) / 2;
                if (readKey(table, middle) < key) {
                    low = middle + 1;
                } else {
                    high = middle;
                }
            }
            return low;
        }

        private int readKey(Table table, int place) {
            cells++;
            return table.keyAt(place);
        }
    }
}
