/**
 * Seats in a hall with sight lines to one point of the stage.
 *
 * <p>The face checks the arguments and throws; {@link Hall} holds the state, {@link Survey} a hall
 * and what is seen in it, {@link History} the saved states, and {@link RowsText} the buffer. All of
 * them are made once with the object and used again, so that no call makes an object but an
 * exception.
 */
public final class HallSights {
    public static final int NONE = -1;

    private static final int MOST_ROWS = 10;
    private static final int MOST_SEATS = 12;
    private static final int MOST_COLUMNS = 4;
    private static final int MOST_DISTANCE = 999;
    private static final int MOST_HEIGHT = 999;
    private static final int MOST_SIDE = 12;
    private static final int MOST_HALF = 5;
    private static final int MOST_SIGNS = 60;
    private static final int MOST_SAVED = 6;

    private static final int POINT = 0;
    private static final int EYE = 1;
    private static final int HEAD = 2;
    private static final int SETTINGS = 3;
    private static final int[] LEAST_OF_SETTING = {0, 1, 0};
    private static final int[] MOST_OF_SETTING = {999, 300, 100};

    private static final int ROW_PROPERTIES = 6;
    private static final int SEAT_PROPERTIES = 7;
    private static final int COLUMN_PROPERTIES = 4;
    private static final int COUNTS = 9;

    private static final long DIGEST_START = 2621L;
    private static final int DIGEST_LIFT = 50;
    private static final int DIGEST_BEST = 3;

    private static final long TWO_TO_52 = 4503599627370496L;

    private final Survey survey = new Survey();
    private final Hall hall = survey.hall;
    private final Survey trial = new Survey();
    private final History history = new History();
    private final RowsText text = new RowsText();

    public HallSights() {
    }

    // ---- rows, columns

    public int addRow(int distance, int height, int seats)
            throws IllegalArgumentException, IllegalStateException {
        if (distance < 1 || distance > MOST_DISTANCE) {
            throw new IllegalArgumentException("distance is not 1 to 999");
        }
        checkHeight(height);
        if (seats < 1 || seats > MOST_SEATS) {
            throw new IllegalArgumentException("seats is not 1 to 12");
        }
        if (!hall.hasRoomForRow(distance)) {
            throw new IllegalStateException("there are 10 rows, or one has this distance");
        }
        saveState();
        return hall.insertRow(distance, height, seats);
    }

    public int removeRow(int row) throws IndexOutOfBoundsException {
        checkRow(row);
        saveState();
        hall.deleteRow(row);
        return hall.seatsInAll();
    }

    public int lift(int row, int height)
            throws IndexOutOfBoundsException, IllegalArgumentException {
        checkRow(row);
        checkHeight(height);
        saveState();
        int before = hall.heights[row];
        hall.heights[row] = height;
        return before;
    }

    public int addColumn(int distance, int side, int half)
            throws IllegalArgumentException, IllegalStateException {
        if (distance < 1 || distance > MOST_DISTANCE) {
            throw new IllegalArgumentException("distance is not 1 to 999");
        }
        if (side < -MOST_SIDE || side > MOST_SIDE) {
            throw new IllegalArgumentException("side is not -12 to 12");
        }
        if (half < 0 || half > MOST_HALF) {
            throw new IllegalArgumentException("half is not 0 to 5");
        }
        if (hall.columns >= MOST_COLUMNS) {
            throw new IllegalStateException("there are 4 columns");
        }
        saveState();
        return hall.insertColumn(distance, side, half);
    }

    public int removeColumn(int column) throws IndexOutOfBoundsException {
        checkColumn(column);
        saveState();
        hall.deleteColumn(column);
        return hall.columns;
    }

    public int set(int setting, int value)
            throws IndexOutOfBoundsException, IllegalArgumentException {
        checkSetting(setting);
        if (value < LEAST_OF_SETTING[setting] || value > MOST_OF_SETTING[setting]) {
            throw new IllegalArgumentException("value is out of the setting's range");
        }
        saveState();
        int before = hall.settings[setting];
        hall.settings[setting] = value;
        return before;
    }

    // ---- people

    public int take(int row, int seat) throws IndexOutOfBoundsException, IllegalStateException {
        checkSeat(row, seat);
        if (hall.isTaken(row, seat)) {
            throw new IllegalStateException("the seat is taken");
        }
        saveState();
        hall.occupy(row, seat, 1);
        return hall.peopleInWay(row, seat);
    }

    public int leave(int row, int seat) throws IndexOutOfBoundsException, IllegalStateException {
        checkSeat(row, seat);
        if (!hall.isTaken(row, seat)) {
            throw new IllegalStateException("the seat is free");
        }
        saveState();
        hall.vacate(row, seat);
        return hall.takenInAll();
    }

    public int seatParty(int many) throws IllegalArgumentException, IllegalStateException {
        if (many < 1 || many > MOST_SEATS) {
            throw new IllegalArgumentException("many is not 1 to 12");
        }
        survey.look();
        int place = survey.placeForParty(many);
        if (place == NONE) {
            throw new IllegalStateException("there are not so many free seats side by side");
        }
        saveState();
        hall.occupy(place / 100, place % 100, many);
        return place;
    }

    public int clear() {
        saveState();
        int before = hall.takenInAll();
        hall.vacateAll();
        return before;
    }

    public int liftAll() {
        saveState();
        int lifted = 0;
        for (int row = 1; row < hall.rows; row++) {
            int least = hall.lowestHeight(row);
            if (hall.heights[row] < least && least <= MOST_HEIGHT) {
                hall.heights[row] = least;
                lifted++;
            }
        }
        return lifted;
    }

    // ---- texts

    public int append(int code) throws IllegalArgumentException, IllegalStateException {
        if (code < 33 || code > 126) {
            throw new IllegalArgumentException("code is not 33 to 126");
        }
        if (text.length >= MOST_SIGNS) {
            throw new IllegalStateException("the buffer has 60 characters");
        }
        text.put((char) code);
        return text.length;
    }

    public int clearBuffer() {
        int before = text.length;
        text.length = 0;
        return before;
    }

    public int firstError() {
        return text.read();
    }

    public int addAll() throws IllegalArgumentException {
        if (!text.isComplete()) {
            throw new IllegalArgumentException("the buffer is not complete rows as a text");
        }
        saveState();
        int added = 0;
        while (added < text.rowsRead() && hall.hasRoomForRow(text.distanceRead(added))) {
            hall.insertRow(text.distanceRead(added), text.heightRead(added), text.seatsRead(added));
            added++;
        }
        text.length = 0;
        return added;
    }

    public int undo() throws IllegalStateException {
        if (history.size == 0) {
            throw new IllegalStateException("there is no saved state");
        }
        history.restoreLatest(hall);
        survey.forget();
        return history.size;
    }

    // ---- looks; nothing is changed

    public int row(int row, int what) throws IndexOutOfBoundsException, IllegalArgumentException {
        checkRow(row);
        checkWhat(what, ROW_PROPERTIES);
        survey.look();
        return rowProperty(row, what);
    }

    public int seat(int row, int seat, int what)
            throws IndexOutOfBoundsException, IllegalArgumentException {
        checkSeat(row, seat);
        checkWhat(what, SEAT_PROPERTIES);
        survey.look();
        return seatProperty(row, seat, what);
    }

    public int column(int column, int what)
            throws IndexOutOfBoundsException, IllegalArgumentException {
        checkColumn(column);
        checkWhat(what, COLUMN_PROPERTIES);
        return columnProperty(column, what);
    }

    public int best(int place) throws IllegalArgumentException {
        if (place < 0) {
            throw new IllegalArgumentException("place is below 0");
        }
        survey.look();
        return survey.freeSeatAt(place);
    }

    public int whoBlocks(int row, int seat) throws IndexOutOfBoundsException {
        checkSeat(row, seat);
        return hall.nearestInWay(row, seat);
    }

    public int count(int what) throws IllegalArgumentException {
        checkWhat(what, COUNTS);
        survey.look();
        return numberOf(what);
    }

    public int setting(int setting) throws IndexOutOfBoundsException {
        checkSetting(setting);
        return hall.settings[setting];
    }

    // ---- what would be; nothing is changed

    public int leastHeight(int row) throws IndexOutOfBoundsException {
        checkRow(row);
        return hall.lowestHeight(row);
    }

    public int ifLifted(int row, int height)
            throws IndexOutOfBoundsException, IllegalArgumentException {
        checkRow(row);
        checkHeight(height);
        return takenSeeingAt(row, height);
    }

    public int ifTaken(int row, int seat) throws IndexOutOfBoundsException {
        checkSeat(row, seat);
        survey.look();
        return survey.sightsLostTo(row, seat);
    }

    public int worstColumn() {
        survey.look();
        return survey.columnToRemove();
    }

    public double seeingShare() {
        survey.look();
        return shareOfSeeing();
    }

    public long digest() {
        survey.look();
        long hash = DIGEST_START;
        for (int what = 0; what < COUNTS; what++) {
            hash = mixed(hash, numberOf(what));
        }
        for (int setting = 0; setting < SETTINGS; setting++) {
            hash = mixed(hash, hall.settings[setting]);
        }
        for (int row = 0; row < hall.rows; row++) {
            hash = mixedWithRow(hash, row);
        }
        for (int column = 0; column < hall.columns; column++) {
            for (int what = 0; what < COLUMN_PROPERTIES; what++) {
                hash = mixed(hash, columnProperty(column, what));
            }
        }
        for (int place = 0; place < DIGEST_BEST; place++) {
            hash = mixed(hash, survey.freeSeatAt(place));
        }
        hash = mixed(hash, survey.columnToRemove());
        hash = mixed(hash, bitsOfShare(shareOfSeeing()));
        hash = mixed(hash, text.length);
        for (int at = 0; at < text.length; at++) {
            hash = mixed(hash, text.signs[at]);
        }
        return hash;
    }

    /** Each change of the hall begins with this, or is undo(): the survey does not outlive it. */
    private void saveState() {
        history.keep(hall);
        survey.forget();
    }

    // ---- checks of arguments

    private void checkRow(int row) {
        if (row < 0 || row >= hall.rows) {
            throw new IndexOutOfBoundsException("there is no such row");
        }
    }

    private void checkSeat(int row, int seat) {
        checkRow(row);
        if (seat < 0 || seat >= hall.seats[row]) {
            throw new IndexOutOfBoundsException("there is no such seat");
        }
    }

    private void checkColumn(int column) {
        if (column < 0 || column >= hall.columns) {
            throw new IndexOutOfBoundsException("there is no such column");
        }
    }

    private static void checkSetting(int setting) {
        if (setting < 0 || setting >= SETTINGS) {
            throw new IndexOutOfBoundsException("there is no such setting");
        }
    }

    private static void checkHeight(int height) {
        if (height < 0 || height > MOST_HEIGHT) {
            throw new IllegalArgumentException("height is not 0 to 999");
        }
    }

    private static void checkWhat(int what, int properties) {
        if (what < 0 || what >= properties) {
            throw new IllegalArgumentException("there is no such property");
        }
    }

    // ---- answers that the looks and the digest share; the survey has been made when they are asked

    private int rowProperty(int row, int what) {
        switch (what) {
            case 0:
                return hall.distances[row];
            case 1:
                return hall.heights[row];
            case 2:
                return hall.seats[row];
            case 3:
                return hall.takenInRow(row);
            case 4:
                return survey.seeingInRow(row);
            default:
                return row == 0 ? hall.heights[row] : hall.heights[row] - hall.heights[row - 1];
        }
    }

    private int seatProperty(int row, int seat, int what) {
        switch (what) {
            case 0:
                return hall.sideOf(row, seat);
            case 1:
                return hall.isTaken(row, seat) ? 1 : 0;
            case 2:
                return survey.people[Survey.cellOf(row, seat)];
            case 3:
                return survey.columns[Survey.cellOf(row, seat)];
            case 4:
                return survey.sees(row, seat) ? 1 : 0;
            case 5:
                return hall.takenBehind(row, seat);
            default:
                return survey.placeOf(row, seat, false);
        }
    }

    private int columnProperty(int column, int what) {
        switch (what) {
            case 0:
                return hall.columnDistances[column];
            case 1:
                return hall.columnSides[column];
            case 2:
                return hall.columnHalves[column];
            default:
                return hall.seatsBehindColumn(column);
        }
    }

    private int numberOf(int what) {
        switch (what) {
            case 0:
                return hall.rows;
            case 1:
                return hall.columns;
            case 2:
                return hall.seatsInAll();
            case 3:
                return hall.takenInAll();
            case 4:
                return survey.seeing();
            case 5:
                return survey.takenSeeing();
            case 6:
                return survey.pairsInWay();
            case 7:
                return hall.longestFree();
            default:
                return history.size;
        }
    }

    private int takenSeeingAt(int row, int height) {
        trial.hall.copyFrom(hall);
        trial.hall.heights[row] = height;
        trial.forget();
        trial.look();
        return trial.takenSeeing();
    }

    private double shareOfSeeing() {
        int taken = hall.takenInAll();
        return taken == 0 ? 1.0 : (double) survey.takenSeeing() / (double) taken;
    }

    private static long mixed(long hash, long value) {
        return 31L * hash + value;
    }

    private long mixedWithRow(long before, int row) {
        long hash = before;
        for (int what = 0; what < ROW_PROPERTIES; what++) {
            hash = mixed(hash, rowProperty(row, what));
        }
        hash = mixed(hash, hall.lowestHeight(row));
        hash = mixed(hash, takenSeeingAt(row, DIGEST_LIFT));
        for (int seat = 0; seat < hall.seats[row]; seat++) {
            for (int what = 0; what < SEAT_PROPERTIES; what++) {
                hash = mixed(hash, seatProperty(row, seat, what));
            }
            hash = mixed(hash, hall.nearestInWay(row, seat));
            hash = mixed(hash, survey.sightsLostTo(row, seat));
        }
        return hash;
    }

    /**
     * The bits of a share from 0.0 to 1.0 as Double.doubleToLongBits() tells them: that function
     * is not in the part of the library that LANGUAGE.md leaves. Doubling is exact, so no bit is
     * lost on the way.
     */
    private static long bitsOfShare(double share) {
        if (share <= 0.0) {
            return 0L;
        }
        double rest = share;
        long exponent = 1023L;
        while (rest < 1.0 && exponent > 1L) {
            rest = rest * 2.0;
            exponent--;
        }
        return exponent * TWO_TO_52 + (long) ((rest - 1.0) * (double) TWO_TO_52);
    }

    /** Rows, columns, people and settings: all that undo() brings back. */
    private static final class Hall {
        int rows;
        final int[] distances = new int[MOST_ROWS];
        final int[] heights = new int[MOST_ROWS];
        final int[] seats = new int[MOST_ROWS];
        /** For each row a set of bits: bit k is 1 if the seat k is taken. */
        final int[] taken = new int[MOST_ROWS];
        int columns;
        final int[] columnDistances = new int[MOST_COLUMNS];
        final int[] columnSides = new int[MOST_COLUMNS];
        final int[] columnHalves = new int[MOST_COLUMNS];
        final int[] settings = {100, 120, 12};

        void copyFrom(Hall other) {
            rows = other.rows;
            System.arraycopy(other.distances, 0, distances, 0, MOST_ROWS);
            System.arraycopy(other.heights, 0, heights, 0, MOST_ROWS);
            System.arraycopy(other.seats, 0, seats, 0, MOST_ROWS);
            System.arraycopy(other.taken, 0, taken, 0, MOST_ROWS);
            columns = other.columns;
            System.arraycopy(other.columnDistances, 0, columnDistances, 0, MOST_COLUMNS);
            System.arraycopy(other.columnSides, 0, columnSides, 0, MOST_COLUMNS);
            System.arraycopy(other.columnHalves, 0, columnHalves, 0, MOST_COLUMNS);
            System.arraycopy(other.settings, 0, settings, 0, SETTINGS);
        }

        boolean hasRoomForRow(int distance) {
            for (int row = 0; row < rows; row++) {
                if (distances[row] == distance) {
                    return false;
                }
            }
            return rows < MOST_ROWS;
        }

        int insertRow(int distance, int height, int many) {
            int at = rows;
            while (at > 0 && distances[at - 1] > distance) {
                moveRow(at - 1, at);
                at--;
            }
            distances[at] = distance;
            heights[at] = height;
            seats[at] = many;
            taken[at] = 0;
            rows++;
            return at;
        }

        void deleteRow(int row) {
            for (int behind = row + 1; behind < rows; behind++) {
                moveRow(behind, behind - 1);
            }
            rows--;
        }

        private void moveRow(int from, int to) {
            distances[to] = distances[from];
            heights[to] = heights[from];
            seats[to] = seats[from];
            taken[to] = taken[from];
        }

        int insertColumn(int distance, int side, int half) {
            columnDistances[columns] = distance;
            columnSides[columns] = side;
            columnHalves[columns] = half;
            columns++;
            return columns - 1;
        }

        void deleteColumn(int column) {
            for (int behind = column + 1; behind < columns; behind++) {
                columnDistances[behind - 1] = columnDistances[behind];
                columnSides[behind - 1] = columnSides[behind];
                columnHalves[behind - 1] = columnHalves[behind];
            }
            columns--;
        }

        boolean isTaken(int row, int seat) {
            return ((taken[row] >> seat) & 1) == 1;
        }

        boolean areFree(int row, int first, int many) {
            return (taken[row] & bitsOf(first, many)) == 0;
        }

        void occupy(int row, int first, int many) {
            taken[row] = taken[row] | bitsOf(first, many);
        }

        void vacate(int row, int seat) {
            taken[row] = taken[row] & ~bitsOf(seat, 1);
        }

        void vacateAll() {
            for (int row = 0; row < rows; row++) {
                taken[row] = 0;
            }
        }

        private static int bitsOf(int first, int many) {
            return ((1 << many) - 1) << first;
        }

        int takenInRow(int row) {
            return Integer.bitCount(taken[row]);
        }

        int takenInAll() {
            int sum = 0;
            for (int row = 0; row < rows; row++) {
                sum += takenInRow(row);
            }
            return sum;
        }

        int seatsInAll() {
            int sum = 0;
            for (int row = 0; row < rows; row++) {
                sum += seats[row];
            }
            return sum;
        }

        int longestFree() {
            int longest = 0;
            for (int row = 0; row < rows; row++) {
                int run = 0;
                for (int seat = 0; seat < seats[row]; seat++) {
                    run = isTaken(row, seat) ? 0 : run + 1;
                    longest = Math.max(longest, run);
                }
            }
            return longest;
        }

        int sideOf(int row, int seat) {
            return 2 * seat - (seats[row] - 1);
        }

        /**
         * Whether a head on the other seat, in the row ahead, is in the way of the seat. Sides and
         * heights on the sight line are fractions over the row's distance: they are compared after
         * a multiplication by it, which is exact.
         */
        boolean isHeadInWay(int row, int seat, int ahead, int other) {
            int far = distances[row];
            int near = distances[ahead];
            int apart = sideOf(ahead, other) * far - sideOf(row, seat) * near;
            if (near >= far || Math.abs(apart) >= far) {
                return false;
            }
            return headOverPoint(ahead) * far > eyeOverPoint(row) * near;
        }

        private int eyeOverPoint(int row) {
            return heights[row] + settings[EYE] - settings[POINT];
        }

        private int headOverPoint(int row) {
            return heights[row] + settings[EYE] + settings[HEAD] - settings[POINT];
        }

        boolean isColumnInWay(int row, int seat, int column) {
            int far = distances[row];
            int near = columnDistances[column];
            int apart = columnSides[column] * far - sideOf(row, seat) * near;
            return near < far && Math.abs(apart) <= columnHalves[column] * far;
        }

        int peopleInWay(int row, int seat) {
            int sum = 0;
            for (int ahead = 0; ahead < row; ahead++) {
                for (int other = 0; other < seats[ahead]; other++) {
                    if (isTaken(ahead, other) && isHeadInWay(row, seat, ahead, other)) {
                        sum++;
                    }
                }
            }
            return sum;
        }

        int columnsInWay(int row, int seat) {
            int sum = 0;
            for (int column = 0; column < columns; column++) {
                if (isColumnInWay(row, seat, column)) {
                    sum++;
                }
            }
            return sum;
        }

        int nearestInWay(int row, int seat) {
            for (int ahead = row - 1; ahead >= 0; ahead--) {
                for (int other = 0; other < seats[ahead]; other++) {
                    if (isTaken(ahead, other) && isHeadInWay(row, seat, ahead, other)) {
                        return 100 * ahead + other;
                    }
                }
            }
            return NONE;
        }

        int takenBehind(int row, int seat) {
            int sum = 0;
            for (int behind = row + 1; behind < rows; behind++) {
                for (int other = 0; other < seats[behind]; other++) {
                    if (isTaken(behind, other) && isHeadInWay(behind, other, row, seat)) {
                        sum++;
                    }
                }
            }
            return sum;
        }

        int seatsBehindColumn(int column) {
            int sum = 0;
            for (int row = 0; row < rows; row++) {
                for (int seat = 0; seat < seats[row]; seat++) {
                    if (isColumnInWay(row, seat, column)) {
                        sum++;
                    }
                }
            }
            return sum;
        }

        int lowestHeight(int row) {
            int least = 0;
            for (int ahead = 0; ahead < row; ahead++) {
                least = Math.max(least, heightToSeeOver(row, ahead));
            }
            return least;
        }

        private int heightToSeeOver(int row, int ahead) {
            // No row is nearer than 1, but a divisor is made sure of before it divides.
            int near = Math.max(1, distances[ahead]);
            int eye = -Math.floorDiv(-headOverPoint(ahead) * distances[row], near);
            return eye - settings[EYE] + settings[POINT];
        }
    }

    /**
     * A hall, and what is in the way of each of its seats. It is asked for that only behind look(),
     * which counts anew if forget() was called since: so a digest, or many looks in a row, count but
     * once.
     */
    private static final class Survey {
        final Hall hall = new Hall();
        private boolean looked;
        final int[] people = new int[MOST_ROWS * MOST_SEATS];
        final int[] columns = new int[MOST_ROWS * MOST_SEATS];
        /** Numbers unlike each other, that are less for the seats that come first in the order. */
        private final int[] ranks = new int[MOST_ROWS * MOST_SEATS];

        void forget() {
            looked = false;
        }

        void look() {
            if (looked) {
                return;
            }
            for (int row = 0; row < hall.rows; row++) {
                for (int seat = 0; seat < hall.seats[row]; seat++) {
                    int cell = cellOf(row, seat);
                    people[cell] = hall.peopleInWay(row, seat);
                    columns[cell] = hall.columnsInWay(row, seat);
                    ranks[cell] = rankOf(row, seat);
                }
            }
            looked = true;
        }

        static int cellOf(int row, int seat) {
            return row * MOST_SEATS + seat;
        }

        private int rankOf(int row, int seat) {
            int rank = allInWay(row, seat) * MOST_ROWS + row;
            rank = rank * MOST_SEATS + Math.abs(hall.sideOf(row, seat));
            return rank * MOST_SEATS + seat;
        }

        private int allInWay(int row, int seat) {
            int cell = cellOf(row, seat);
            return people[cell] + columns[cell];
        }

        boolean sees(int row, int seat) {
            return allInWay(row, seat) == 0;
        }

        int seeingInRow(int row) {
            int sum = 0;
            for (int seat = 0; seat < hall.seats[row]; seat++) {
                if (sees(row, seat)) {
                    sum++;
                }
            }
            return sum;
        }

        int seeing() {
            int sum = 0;
            for (int row = 0; row < hall.rows; row++) {
                sum += seeingInRow(row);
            }
            return sum;
        }

        int takenSeeing() {
            int sum = 0;
            for (int row = 0; row < hall.rows; row++) {
                for (int seat = 0; seat < hall.seats[row]; seat++) {
                    if (hall.isTaken(row, seat) && sees(row, seat)) {
                        sum++;
                    }
                }
            }
            return sum;
        }

        int pairsInWay() {
            int sum = 0;
            for (int row = 0; row < hall.rows; row++) {
                for (int seat = 0; seat < hall.seats[row]; seat++) {
                    if (hall.isTaken(row, seat)) {
                        sum += people[cellOf(row, seat)];
                    }
                }
            }
            return sum;
        }

        int placeOf(int row, int seat, boolean amongFree) {
            int rank = ranks[cellOf(row, seat)];
            int place = 0;
            for (int otherRow = 0; otherRow < hall.rows; otherRow++) {
                for (int other = 0; other < hall.seats[otherRow]; other++) {
                    boolean counts = !amongFree || !hall.isTaken(otherRow, other);
                    if (counts && ranks[cellOf(otherRow, other)] < rank) {
                        place++;
                    }
                }
            }
            return place;
        }

        int freeSeatAt(int place) {
            for (int row = 0; row < hall.rows; row++) {
                for (int seat = 0; seat < hall.seats[row]; seat++) {
                    if (!hall.isTaken(row, seat) && placeOf(row, seat, true) == place) {
                        return 100 * row + seat;
                    }
                }
            }
            return NONE;
        }

        int placeForParty(int many) {
            int found = NONE;
            int least = 0;
            for (int row = 0; row < hall.rows; row++) {
                for (int first = 0; first + many <= hall.seats[row]; first++) {
                    int sum = allInWayOfParty(row, first, many);
                    if (hall.areFree(row, first, many) && (found == NONE || sum < least)) {
                        found = 100 * row + first;
                        least = sum;
                    }
                }
            }
            return found;
        }

        private int allInWayOfParty(int row, int first, int many) {
            int sum = 0;
            for (int seat = first; seat < first + many; seat++) {
                sum += allInWay(row, seat);
            }
            return sum;
        }

        /** How many taken seats that see would not, if somebody took this seat. */
        int sightsLostTo(int row, int seat) {
            if (hall.isTaken(row, seat)) {
                return 0;
            }
            int sum = 0;
            for (int behind = row + 1; behind < hall.rows; behind++) {
                for (int other = 0; other < hall.seats[behind]; other++) {
                    if (hall.isTaken(behind, other) && sees(behind, other)
                            && hall.isHeadInWay(behind, other, row, seat)) {
                        sum++;
                    }
                }
            }
            return sum;
        }

        int columnToRemove() {
            int worst = NONE;
            int most = 0;
            for (int column = 0; column < hall.columns; column++) {
                int freed = seatsKeptBy(column);
                if (worst == NONE || freed > most) {
                    worst = column;
                    most = freed;
                }
            }
            return worst;
        }

        /** How many seats do not see for this column alone: those that see are the same for each. */
        private int seatsKeptBy(int column) {
            int sum = 0;
            for (int row = 0; row < hall.rows; row++) {
                for (int seat = 0; seat < hall.seats[row]; seat++) {
                    if (allInWay(row, seat) == 1 && hall.isColumnInWay(row, seat, column)) {
                        sum++;
                    }
                }
            }
            return sum;
        }
    }

    /** The saved states, the oldest first. */
    private static final class History {
        private final Hall[] kept = new Hall[MOST_SAVED];
        int size;

        History() {
            for (int at = 0; at < MOST_SAVED; at++) {
                kept[at] = new Hall();
            }
        }

        void keep(Hall hall) {
            if (size == MOST_SAVED) {
                dropOldest();
            }
            kept[size].copyFrom(hall);
            size++;
        }

        /** The oldest one's object goes behind the others, to be written over by the next. */
        private void dropOldest() {
            Hall oldest = kept[0];
            for (int at = 1; at < MOST_SAVED; at++) {
                kept[at - 1] = kept[at];
            }
            kept[MOST_SAVED - 1] = oldest;
            size--;
        }

        void restoreLatest(Hall hall) {
            if (size > 0) {
                size--;
                hall.copyFrom(kept[size]);
            }
        }
    }

    /** The buffer, and the numbers that were read of it when read() was last called. */
    private static final class RowsText {
        private static final int PARTS = 3;
        private static final int DISTANCE = 0;
        private static final int TALLNESS = 1;
        private static final int WIDTH = 2;
        private static final int[] LEAST_OF_PART = {1, 0, 1};
        private static final int[] MOST_OF_PART = {MOST_DISTANCE, MOST_HEIGHT, MOST_SEATS};
        private static final char[] END_OF_PART = {'^', '*', ';'};

        final char[] signs = new char[MOST_SIGNS];
        int length;
        /** The numbers of the rows, three a row; the last one is still being read. */
        private final int[] numbers = new int[MOST_SIGNS + 1];
        private int last;
        private boolean begun;

        void put(char sign) {
            if (length < MOST_SIGNS) {
                signs[length] = sign;
                length++;
            }
        }

        /** Reads the buffer; returns the index of the first error, or the length if there is none. */
        int read() {
            last = 0;
            begun = false;
            for (int at = 0; at < length; at++) {
                char sign = signs[at];
                boolean fits = sign >= '0' && sign <= '9' ? readDigit(sign - '0') : readEnd(sign);
                if (!fits) {
                    return at;
                }
            }
            return length;
        }

        private boolean readDigit(int digit) {
            int part = last % PARTS;
            if (!begun) {
                numbers[last] = digit;
                begun = true;
                return digit >= LEAST_OF_PART[part];
            }
            // Behind a 0 comes no digit: it would be a leading zero.
            boolean fits = numbers[last] > 0 && numbers[last] * 10 + digit <= MOST_OF_PART[part];
            numbers[last] = numbers[last] * 10 + digit;
            return fits;
        }

        private boolean readEnd(char sign) {
            if (!begun || sign != END_OF_PART[last % PARTS]) {
                return false;
            }
            last++;
            begun = false;
            return true;
        }

        boolean isComplete() {
            return read() == length && begun && last % PARTS == WIDTH;
        }

        int rowsRead() {
            return last / PARTS + 1;
        }

        int distanceRead(int row) {
            return numbers[row * PARTS + DISTANCE];
        }

        int heightRead(int row) {
            return numbers[row * PARTS + TALLNESS];
        }

        int seatsRead(int row) {
            return numbers[row * PARTS + WIDTH];
        }
    }
}
