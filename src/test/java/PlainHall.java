import java.util.ArrayList;
import java.util.Comparator;
import java.util.HashMap;
import java.util.List;
import java.util.Map;
import java.util.regex.Matcher;
import java.util.regex.Pattern;

/**
 * The document once more, with lists, fractions and patterns in place of arrays and whole numbers:
 * what RandomRunsTest compares the program with. It is slow, and shares no code with the program.
 */
public final class PlainHall {
    private static final String ROW = "[1-9][0-9]{0,2}\\^(0|[1-9][0-9]{0,2})\\*([1-9]|1[0-2])";
    private static final Pattern ROWS = Pattern.compile(ROW + "(;" + ROW + ")*");

    private static final class Row {
        int distance;
        int height;
        boolean[] taken;

        Row(int distance, int height, boolean[] taken) {
            this.distance = distance;
            this.height = height;
            this.taken = taken;
        }

        Row copy() {
            return new Row(distance, height, taken.clone());
        }
    }

    private record Column(int distance, int side, int half) {
    }

    private record Seat(int row, int seat) {
    }

    private record Fraction(long top, long bottom) {
        /** How it compares with a whole number; bottoms are above 0. */
        int compareWith(long whole) {
            return Long.compare(top, bottom * whole);
        }
    }

    private record State(List<Row> rows, List<Column> columns, int[] settings) {
    }

    private List<Row> rows = new ArrayList<>();
    private List<Column> columns = new ArrayList<>();
    private int[] settings = {100, 120, 12};
    private final List<State> saved = new ArrayList<>();
    private String buffer = "";

    public PlainHall() {
    }

    private static void argument(boolean right) {
        if (!right) {
            throw new IllegalArgumentException();
        }
    }

    private static void state(boolean right) {
        if (!right) {
            throw new IllegalStateException();
        }
    }

    private static void index(int index, int size) {
        if (index < 0 || index >= size) {
            throw new IndexOutOfBoundsException();
        }
    }

    private void seatIndex(int row, int seat) {
        index(row, rows.size());
        index(seat, rows.get(row).taken.length);
    }

    private List<Row> copyOfRows() {
        List<Row> copy = new ArrayList<>();
        for (Row row : rows) {
            copy.add(row.copy());
        }
        return copy;
    }

    private void save() {
        saved.add(new State(copyOfRows(), new ArrayList<>(columns), settings.clone()));
        if (saved.size() > 6) {
            saved.remove(0);
        }
    }

    private boolean canAdd(int distance) {
        return rows.size() < 10 && rows.stream().noneMatch(row -> row.distance == distance);
    }

    private int insert(int distance, int height, int seats) {
        Row added = new Row(distance, height, new boolean[seats]);
        rows.add(added);
        rows.sort(Comparator.comparingInt(row -> row.distance));
        return rows.indexOf(added);
    }

    public int addRow(int distance, int height, int seats) {
        argument(distance >= 1 && distance <= 999 && height >= 0 && height <= 999
                && seats >= 1 && seats <= 12);
        state(canAdd(distance));
        save();
        return insert(distance, height, seats);
    }

    public int removeRow(int row) {
        index(row, rows.size());
        save();
        rows.remove(row);
        return allSeats().size();
    }

    public int lift(int row, int height) {
        index(row, rows.size());
        argument(height >= 0 && height <= 999);
        save();
        int before = rows.get(row).height;
        rows.get(row).height = height;
        return before;
    }

    public int addColumn(int distance, int side, int half) {
        argument(distance >= 1 && distance <= 999 && side >= -12 && side <= 12
                && half >= 0 && half <= 5);
        state(columns.size() < 4);
        save();
        columns.add(new Column(distance, side, half));
        return columns.size() - 1;
    }

    public int removeColumn(int column) {
        index(column, columns.size());
        save();
        columns.remove(column);
        return columns.size();
    }

    public int set(int setting, int value) {
        index(setting, 3);
        argument(setting == 0 ? value >= 0 && value <= 999
                : setting == 1 ? value >= 1 && value <= 300 : value >= 0 && value <= 100);
        save();
        int before = settings[setting];
        settings[setting] = value;
        return before;
    }

    public int take(int row, int seat) {
        seatIndex(row, seat);
        state(!rows.get(row).taken[seat]);
        save();
        rows.get(row).taken[seat] = true;
        return people(new Seat(row, seat)).size();
    }

    public int leave(int row, int seat) {
        seatIndex(row, seat);
        state(rows.get(row).taken[seat]);
        save();
        rows.get(row).taken[seat] = false;
        return takenSeats().size();
    }

    public int seatParty(int many) {
        argument(many >= 1 && many <= 12);
        Seat found = null;
        int least = Integer.MAX_VALUE;
        for (Seat first : allSeats()) {
            int sum = 0;
            boolean fits = first.seat + many <= rows.get(first.row).taken.length;
            for (int next = 0; fits && next < many; next++) {
                Seat seat = new Seat(first.row, first.seat + next);
                fits = !isTaken(seat);
                sum += inWay(seat);
            }
            if (fits && sum < least) {
                least = sum;
                found = first;
            }
        }
        state(found != null);
        save();
        for (int next = 0; next < many; next++) {
            rows.get(found.row).taken[found.seat + next] = true;
        }
        return told(found);
    }

    public int clear() {
        save();
        int before = takenSeats().size();
        for (Row row : rows) {
            row.taken = new boolean[row.taken.length];
        }
        return before;
    }

    public int liftAll() {
        save();
        int lifted = 0;
        for (int row = 1; row < rows.size(); row++) {
            int least = leastHeight(row);
            if (rows.get(row).height < least && least <= 999) {
                rows.get(row).height = least;
                lifted++;
            }
        }
        return lifted;
    }

    public int append(int code) {
        argument(code >= 33 && code <= 126);
        state(buffer.length() < 60);
        buffer += (char) code;
        return buffer.length();
    }

    public int clearBuffer() {
        int before = buffer.length();
        buffer = "";
        return before;
    }

    public int firstError() {
        for (int length = 1; length <= buffer.length(); length++) {
            Matcher matcher = ROWS.matcher(buffer.substring(0, length));
            // A text that fails, but at whose end more might have matched, is the beginning of one.
            if (!matcher.matches() && !matcher.hitEnd()) {
                return length - 1;
            }
        }
        return buffer.length();
    }

    public int addAll() {
        argument(ROWS.matcher(buffer).matches());
        save();
        int added = 0;
        for (String row : buffer.split(";")) {
            String[] parts = row.split("[\\^*]");
            if (!canAdd(Integer.parseInt(parts[0]))) {
                break;
            }
            insert(Integer.parseInt(parts[0]), Integer.parseInt(parts[1]),
                    Integer.parseInt(parts[2]));
            added++;
        }
        buffer = "";
        return added;
    }

    public int undo() {
        state(!saved.isEmpty());
        State latest = saved.remove(saved.size() - 1);
        rows = latest.rows;
        columns = latest.columns;
        settings = latest.settings;
        return saved.size();
    }

    private List<Seat> allSeats() {
        List<Seat> all = new ArrayList<>();
        for (int row = 0; row < rows.size(); row++) {
            for (int seat = 0; seat < rows.get(row).taken.length; seat++) {
                all.add(new Seat(row, seat));
            }
        }
        return all;
    }

    private List<Seat> takenSeats() {
        List<Seat> all = allSeats();
        all.removeIf(seat -> !isTaken(seat));
        return all;
    }

    private static int told(Seat seat) {
        return 100 * seat.row + seat.seat;
    }

    private boolean isTaken(Seat seat) {
        return rows.get(seat.row).taken[seat.seat];
    }

    private int side(Seat seat) {
        return 2 * seat.seat - (rows.get(seat.row).taken.length - 1);
    }

    private Fraction onLine(Seat seat, int atTheSeat, int at) {
        return new Fraction((long) atTheSeat * at, rows.get(seat.row).distance);
    }

    private boolean wouldBlock(Seat head, Seat seat) {
        Row row = rows.get(seat.row);
        Row ahead = rows.get(head.row);
        if (ahead.distance >= row.distance) {
            return false;
        }
        Fraction side = onLine(seat, side(seat), ahead.distance);
        boolean inLine = side.compareWith(side(head) - 1) > 0 && side.compareWith(side(head) + 1) < 0;
        int eye = row.height + settings[1] - settings[0];
        int top = ahead.height + settings[1] + settings[2] - settings[0];
        return inLine && onLine(seat, eye, ahead.distance).compareWith(top) < 0;
    }

    private boolean blocks(Column column, Seat seat) {
        Fraction side = onLine(seat, side(seat), column.distance);
        return column.distance < rows.get(seat.row).distance
                && side.compareWith(column.side - column.half) >= 0
                && side.compareWith(column.side + column.half) <= 0;
    }

    private List<Seat> people(Seat seat) {
        List<Seat> all = takenSeats();
        all.removeIf(one -> !wouldBlock(one, seat));
        return all;
    }

    private int columnsInWay(Seat seat) {
        return (int) columns.stream().filter(column -> blocks(column, seat)).count();
    }

    private int inWay(Seat seat) {
        return people(seat).size() + columnsInWay(seat);
    }

    private List<Seat> seeing(List<Seat> seats) {
        List<Seat> all = new ArrayList<>(seats);
        all.removeIf(seat -> inWay(seat) > 0);
        return all;
    }

    private List<Seat> ordered(List<Seat> seats) {
        List<Seat> all = new ArrayList<>(seats);
        Map<Seat, Integer> inWay = new HashMap<>();
        for (Seat seat : all) {
            inWay.put(seat, inWay(seat));
        }
        all.sort(Comparator.comparingInt((Seat seat) -> inWay.get(seat)).thenComparingInt(Seat::row)
                .thenComparingInt(seat -> Math.abs(side(seat))).thenComparingInt(Seat::seat));
        return all;
    }

    public int row(int row, int what) {
        index(row, rows.size());
        argument(what >= 0 && what <= 5);
        Row it = rows.get(row);
        List<Seat> its = allSeats();
        its.removeIf(seat -> seat.row != row);
        if (what == 4) {
            return seeing(its).size();
        }
        its.removeIf(seat -> !isTaken(seat));
        int ahead = row == 0 ? 0 : rows.get(row - 1).height;
        int[] all = {it.distance, it.height, it.taken.length, its.size(), 0, it.height - ahead};
        return all[what];
    }

    public int seat(int row, int seat, int what) {
        seatIndex(row, seat);
        argument(what >= 0 && what <= 6);
        Seat it = new Seat(row, seat);
        if (what == 6) {
            return ordered(allSeats()).indexOf(it);
        }
        List<Seat> behind = takenSeats();
        behind.removeIf(other -> !wouldBlock(it, other));
        int[] all = {side(it), isTaken(it) ? 1 : 0, people(it).size(), columnsInWay(it),
            inWay(it) == 0 ? 1 : 0, behind.size()};
        return all[what];
    }

    public int column(int column, int what) {
        index(column, columns.size());
        argument(what >= 0 && what <= 3);
        Column it = columns.get(column);
        List<Seat> behind = allSeats();
        behind.removeIf(seat -> !blocks(it, seat));
        int[] all = {it.distance, it.side, it.half, behind.size()};
        return all[what];
    }

    public int best(int place) {
        argument(place >= 0);
        List<Seat> free = allSeats();
        free.removeIf(this::isTaken);
        return place < free.size() ? told(ordered(free).get(place)) : -1;
    }

    public int whoBlocks(int row, int seat) {
        seatIndex(row, seat);
        List<Seat> all = people(new Seat(row, seat));
        all.sort(Comparator.comparingInt((Seat one) -> -one.row).thenComparingInt(Seat::seat));
        return all.isEmpty() ? -1 : told(all.get(0));
    }

    public int count(int what) {
        argument(what >= 0 && what <= 8);
        switch (what) {
            case 4:
                return seeing(allSeats()).size();
            case 5:
                return seeing(takenSeats()).size();
            case 6:
                return takenSeats().stream().mapToInt(seat -> people(seat).size()).sum();
            case 7:
                return longestFree();
            default:
                int[] all = {rows.size(), columns.size(), allSeats().size(), takenSeats().size(),
                    0, 0, 0, 0, saved.size()};
                return all[what];
        }
    }

    private int longestFree() {
        int longest = 0;
        for (Row row : rows) {
            StringBuilder signs = new StringBuilder();
            for (boolean taken : row.taken) {
                signs.append(taken ? ' ' : 'f');
            }
            for (String run : signs.toString().split(" ")) {
                longest = Math.max(longest, run.length());
            }
        }
        return longest;
    }

    public int setting(int setting) {
        index(setting, 3);
        return settings[setting];
    }

    /** Found by trying, from the greatest height that any row can need down by halves. */
    public int leastHeight(int row) {
        index(row, rows.size());
        int low = 0;
        int high = 2_000_000;
        while (low < high) {
            int middle = (low + high) / 2;
            if (seesOverAll(row, middle)) {
                high = middle;
            } else {
                low = middle + 1;
            }
        }
        return low;
    }

    private boolean seesOverAll(int row, int height) {
        for (Row ahead : rows.subList(0, row)) {
            int top = ahead.height + settings[1] + settings[2] - settings[0];
            long eye = height + settings[1] - settings[0];
            if (new Fraction(eye * ahead.distance, rows.get(row).distance).compareWith(top) < 0) {
                return false;
            }
        }
        return true;
    }

    public int ifLifted(int row, int height) {
        index(row, rows.size());
        argument(height >= 0 && height <= 999);
        int before = rows.get(row).height;
        rows.get(row).height = height;
        int seeing = seeing(takenSeats()).size();
        rows.get(row).height = before;
        return seeing;
    }

    public int ifTaken(int row, int seat) {
        seatIndex(row, seat);
        if (rows.get(row).taken[seat]) {
            return 0;
        }
        List<Seat> people = takenSeats();
        int before = seeing(people).size();
        rows.get(row).taken[seat] = true;
        int after = seeing(people).size();
        rows.get(row).taken[seat] = false;
        return before - after;
    }

    public int worstColumn() {
        List<Column> all = columns;
        int worst = -1;
        int most = -1;
        for (int column = 0; column < all.size(); column++) {
            columns = new ArrayList<>(all);
            columns.remove(column);
            int seeing = seeing(allSeats()).size();
            if (seeing > most) {
                most = seeing;
                worst = column;
            }
        }
        columns = all;
        return worst;
    }

    public double seeingShare() {
        int taken = takenSeats().size();
        return taken == 0 ? 1.0 : (double) seeing(takenSeats()).size() / taken;
    }

    public long digest() {
        List<Long> values = new ArrayList<>();
        for (int what = 0; what <= 8; what++) {
            values.add((long) count(what));
        }
        for (int setting : settings) {
            values.add((long) setting);
        }
        for (int row = 0; row < rows.size(); row++) {
            for (int what = 0; what <= 5; what++) {
                values.add((long) row(row, what));
            }
            values.add((long) leastHeight(row));
            values.add((long) ifLifted(row, 50));
            for (int seat = 0; seat < rows.get(row).taken.length; seat++) {
                for (int what = 0; what <= 6; what++) {
                    values.add((long) seat(row, seat, what));
                }
                values.add((long) whoBlocks(row, seat));
                values.add((long) ifTaken(row, seat));
            }
        }
        for (int column = 0; column < columns.size(); column++) {
            for (int what = 0; what <= 3; what++) {
                values.add((long) column(column, what));
            }
        }
        for (int place = 0; place <= 2; place++) {
            values.add((long) best(place));
        }
        values.add((long) worstColumn());
        values.add(Double.doubleToLongBits(seeingShare()));
        values.add((long) buffer.length());
        buffer.chars().forEach(code -> values.add((long) code));
        long hash = 2621;
        for (long value : values) {
            hash = 31 * hash + value;
        }
        return hash;
    }
}
