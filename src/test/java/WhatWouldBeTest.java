/** Promises 25 to 30: least heights, what would be, the worst column, shares, the digest. */
final class WhatWouldBeTest {
    private static final Class<?> ARGUMENT = IllegalArgumentException.class;
    private static final Class<?> INDEX = IndexOutOfBoundsException.class;

    private WhatWouldBeTest() {
    }

    public static void main(String[] args) {
        leastHeight();
        leastHeightIsLeast();
        ifLifted();
        ifTaken();
        worstColumn();
        seeingShare();
        digestOfNewObject();
        digest();
        Check.end("WhatWouldBeTest");
    }

    private static void leastHeight() {
        HallSights x = new HallSights();
        x.addRow(7, 0, 1);
        x.addRow(10, 500, 12);
        Check.looks("leastHeight(0)", x, 0, () -> x.leastHeight(0));
        // 32 * 10 / 7 is 45.7, which an eye 20 above the point at height 0 needs.
        Check.looks("leastHeight(1)", x, 26, () -> x.leastHeight(1));
        x.set(0, 140);
        // -8 * 10 / 7 is -11.4, and the eye is at -20 at height 0.
        Check.looks("leastHeight(1) under the point", x, 9, () -> x.leastHeight(1));
        x.set(0, 999);
        Check.looks("leastHeight(1) that is not below 0", x, 0, () -> x.leastHeight(1));
        x.set(0, 0);
        x.addRow(999, 3, 1);
        // Over the row 0 it is 132 * 999 / 7 - 120, over the row 1, at 500, 632 * 999 / 10 - 120.
        Check.looks("leastHeight(2) of the row 1", x, 63017, () -> x.leastHeight(2));
        x.lift(1, 0);
        Check.looks("leastHeight(2) of the row 0", x, 18719, () -> x.leastHeight(2));
        Check.fails("leastHeight(3)", x, INDEX, () -> x.leastHeight(3));
        Check.fails("leastHeight(-1)", x, INDEX, () -> x.leastHeight(-1));
    }

    /** At the least height a seat straight behind a head sees, and at one less it does not. */
    private static void leastHeightIsLeast() {
        for (int point = 0; point <= 999; point += 27) {
            HallSights x = new HallSights();
            x.addRow(13 + point % 40, point % 90, 1);
            x.addRow(60 + point % 7, 0, 1);
            x.take(0, 0);
            x.set(0, point);
            int least = x.leastHeight(1);
            x.lift(1, least);
            Check.same("sees at the least height, point " + point, x.seat(1, 0, 4), 1);
            if (least > 0) {
                x.lift(1, least - 1);
                Check.same("sees below the least height, point " + point, x.seat(1, 0, 4), 0);
            }
        }
    }

    private static void ifLifted() {
        HallSights x = LooksTest.flatHall();
        int[][] due = {{2, 0, 3}, {2, 300, 5}, {1, 300, 4}, {0, 0, 3}, {0, 999, 3}, {1, 0, 3}};
        for (int[] one : due) {
            Check.looks("ifLifted(" + one[0] + ", " + one[1] + ")", x, one[2],
                    () -> x.ifLifted(one[0], one[1]));
        }
        x.addColumn(29, 1, 0);
        Check.looks("ifLifted(2, 999) behind a column", x, 5, () -> x.ifLifted(2, 999));
        x.addColumn(29, 1, 1);
        Check.looks("ifLifted(2, 999) behind a broader column", x, 4, () -> x.ifLifted(2, 999));
        Check.fails("ifLifted(3, 0)", x, INDEX, () -> x.ifLifted(3, 0));
        Check.fails("ifLifted(-1, 0)", x, INDEX, () -> x.ifLifted(-1, 0));
        Check.fails("ifLifted(3, 1000)", x, INDEX, () -> x.ifLifted(3, 1000));
        Check.fails("ifLifted(0, 1000)", x, ARGUMENT, () -> x.ifLifted(0, 1000));
        Check.fails("ifLifted(0, -1)", x, ARGUMENT, () -> x.ifLifted(0, -1));
    }

    private static void ifTaken() {
        HallSights x = LooksTest.flatHall();
        Check.looks("ifTaken(0, 1), which is taken", x, 0, () -> x.ifTaken(0, 1));
        Check.looks("ifTaken(1, 1) ahead of those who do not see", x, 0, () -> x.ifTaken(1, 1));
        x.clear();
        x.take(1, 1);
        x.take(2, 1);
        // In the way of both would be (0, 1); (2, 0) is free.
        Check.looks("ifTaken(0, 1)", x, 2, () -> x.ifTaken(0, 1));
        Check.looks("ifTaken(0, 2)", x, 0, () -> x.ifTaken(0, 2));
        Check.looks("ifTaken(1, 2)", x, 1, () -> x.ifTaken(1, 2));
        x.take(1, 2);
        Check.looks("ifTaken(0, 1) when (2, 1) does not see", x, 1, () -> x.ifTaken(0, 1));
        x.addColumn(1, 0, 5);
        Check.looks("ifTaken(0, 1) when nobody sees", x, 0, () -> x.ifTaken(0, 1));
        Check.fails("ifTaken(3, 0)", x, INDEX, () -> x.ifTaken(3, 0));
        Check.fails("ifTaken(-1, 0)", x, INDEX, () -> x.ifTaken(-1, 0));
        Check.fails("ifTaken(0, 4)", x, INDEX, () -> x.ifTaken(0, 4));
        Check.fails("ifTaken(0, -1)", x, INDEX, () -> x.ifTaken(0, -1));
    }

    private static void worstColumn() {
        HallSights x = LooksTest.flatHall();
        Check.looks("worstColumn() without columns", x, HallSights.NONE, () -> x.worstColumn());
        x.addColumn(999, 0, 5);
        Check.looks("worstColumn() of one in nobody's way", x, 0, () -> x.worstColumn());
        x.addColumn(15, -3, 1);
        Check.looks("worstColumn()", x, 1, () -> x.worstColumn());
        x.addColumn(5, 0, 0);
        Check.looks("worstColumn(), of two the lowest", x, 1, () -> x.worstColumn());
        x.addColumn(20, 0, 2);
        Check.looks("worstColumn() behind people", x, 1, () -> x.worstColumn());
        x.clear();
        Check.looks("worstColumn() of four seats that are free", x, 3, () -> x.worstColumn());
        x.removeColumn(0);
        x.addColumn(20, 0, 2);
        Check.looks("worstColumn() of two that hide the same", x, 0, () -> x.worstColumn());
    }

    private static void seeingShare() {
        HallSights x = LooksTest.flatHall();
        long before = x.digest();
        Check.holds("seeingShare() is 3 / 6", x.seeingShare() == 0.5);
        Check.same("the digest after seeingShare()", x.digest(), before);
        x.take(0, 0);
        Check.holds("seeingShare() is 4 / 7", x.seeingShare() == 4.0 / 7.0);
        x.addColumn(1, 0, 5);
        Check.holds("seeingShare() is 0 / 7", x.seeingShare() == 0.0);
        x.clear();
        Check.holds("seeingShare() of nobody", x.seeingShare() == 1.0);
        Check.holds("seeingShare() of an empty hall", new HallSights().seeingShare() == 1.0);
    }

    private static void digestOfNewObject() {
        long[] values = {0, 0, 0, 0, 0, 0, 0, 0, 0, 100, 120, 12, -1, -1, -1, -1,
            0x3FF0000000000000L, 0};
        long hash = 2621;
        for (long value : values) {
            hash = 31 * hash + value;
        }
        Check.same("a new object's digest()", new HallSights().digest(), hash);
    }

    private static void digest() {
        HallSights x = LooksTest.flatHall();
        lookAtDigest(x, "");
        Check.write(x, "1^2~");
        lookAtDigest(x, "1^2~");
        HallSights y = LooksTest.flatHall();
        y.addColumn(15, -3, 1);
        y.addColumn(5, 0, 0);
        y.addColumn(20, 0, 2);
        lookAtDigest(y, "");
        y.undo();
        y.set(0, 120);
        lookAtDigest(y, "");
        digestLiftsTo50();
        shares();
    }

    /** In these halls the row 1 sees from 50 and from 51 on. */
    private static void digestLiftsTo50() {
        int[][] halls = {{10, 3, 20, 50}, {20, 1, 43, 51}};
        for (int[] hall : halls) {
            HallSights x = new HallSights();
            x.addRow(hall[0], hall[1], 1);
            x.addRow(hall[2], 0, 1);
            x.take(0, 0);
            x.take(1, 0);
            Check.same("leastHeight(1)", x.leastHeight(1), hall[3]);
            lookAtDigest(x, "");
        }
    }

    /** Every share that 12 seats can have, and so all kinds of bits of it. */
    private static void shares() {
        for (int sitting = 0; sitting <= 12; sitting++) {
            for (int hidden = 0; hidden <= sitting; hidden++) {
                HallSights x = new HallSights();
                x.addRow(500, 0, 12);
                for (int seat = 0; seat < sitting; seat++) {
                    x.take(0, seat);
                }
                hide(x, hidden);
                Check.same("count(5)", x.count(5), sitting - hidden);
                lookAtDigest(x, "");
            }
        }
    }

    /** The line of the seat k passes 250 at k - 5.5. */
    private static void hide(HallSights x, int seats) {
        int left = Math.min(11, seats);
        if (left > 0) {
            x.addColumn(250, -6, Math.min(5, left));
        }
        if (left > 5) {
            x.addColumn(250, left - 11, 5);
        }
        if (seats == 12) {
            x.addColumn(250, 6, 5);
        }
    }

    /** The same list as the document tells, from the other calls' answers. */
    private static void lookAtDigest(HallSights x, String buffer) {
        long hash = 2621;
        for (int what = 0; what <= 8; what++) {
            hash = 31 * hash + x.count(what);
        }
        for (int setting = 0; setting <= 2; setting++) {
            hash = 31 * hash + x.setting(setting);
        }
        for (int row = 0; row < x.count(0); row++) {
            for (int what = 0; what <= 5; what++) {
                hash = 31 * hash + x.row(row, what);
            }
            hash = 31 * hash + x.leastHeight(row);
            hash = 31 * hash + x.ifLifted(row, 50);
            for (int seat = 0; seat < x.row(row, 2); seat++) {
                for (int what = 0; what <= 6; what++) {
                    hash = 31 * hash + x.seat(row, seat, what);
                }
                hash = 31 * hash + x.whoBlocks(row, seat);
                hash = 31 * hash + x.ifTaken(row, seat);
            }
        }
        for (int column = 0; column < x.count(1); column++) {
            for (int what = 0; what <= 3; what++) {
                hash = 31 * hash + x.column(column, what);
            }
        }
        for (int place = 0; place <= 2; place++) {
            hash = 31 * hash + x.best(place);
        }
        hash = 31 * hash + x.worstColumn();
        hash = 31 * hash + Double.doubleToLongBits(x.seeingShare());
        hash = 31 * hash + buffer.length();
        for (char code : buffer.toCharArray()) {
            hash = 31 * hash + code;
        }
        Check.looks("digest() with the buffer '" + buffer + "'", x, hash, () -> x.digest());
    }
}
