/** Halls that many tests begin with: each call makes the same one anew. */
final class Halls {
    static final int MOST_ROWS = 10;
    static final int MOST_SEATS = 12;

    private Halls() {
    }

    /** Rows, columns, people, a text, and this many saved states, all unlike each other. */
    static HallSights busy(int saved) {
        HallSights x = new HallSights();
        x.addRow(10, 0, 4);
        x.addRow(20, 10, 5);
        x.addRow(30, 60, 3);
        x.addColumn(15, -1, 1);
        x.take(0, 1);
        x.take(1, 2);
        x.take(2, 0);
        x.set(0, 90);
        x.lift(1, 12);
        x.take(2, 2);
        x.addColumn(12, 3, 0);
        x.leave(0, 1);
        x.addRow(40, 5, 2);
        for (int more = 6; more > saved; more--) {
            x.undo();
        }
        Check.write(x, "50^70*6;60^80*1");
        return x;
    }

    static HallSights busy() {
        return busy(6);
    }

    /** Ten rows of 12 free seats, straight behind each other, all at the height 0. */
    static HallSights large() {
        HallSights x = new HallSights();
        for (int row = 0; row < MOST_ROWS; row++) {
            x.addRow(990 + row, 0, MOST_SEATS);
        }
        return x;
    }

    /** The large hall with somebody on each of its 120 seats. */
    static HallSights full() {
        HallSights x = large();
        for (int row = 0; row < MOST_ROWS; row++) {
            x.seatParty(MOST_SEATS);
        }
        return x;
    }

    /** Four columns that are in nobody's way, behind one row of 12 seats. */
    static HallSights fourColumns() {
        HallSights x = new HallSights();
        x.addRow(10, 0, MOST_SEATS);
        for (int column = 0; column < 4; column++) {
            x.addColumn(20 + column, column, column);
        }
        x.take(0, 0);
        x.take(0, 1);
        return x;
    }

    /** One row, and a buffer with this text. */
    static HallSights withText(String text) {
        HallSights x = new HallSights();
        x.addRow(500, 7, 3);
        Check.write(x, text);
        return x;
    }

    /** A row ahead, and one behind it, at these heights, with one seat each. */
    static HallSights two(int near, int nearHeight, int far, int farHeight) {
        HallSights x = new HallSights();
        x.addRow(near, nearHeight, 1);
        x.addRow(far, farHeight, 1);
        return x;
    }
}
