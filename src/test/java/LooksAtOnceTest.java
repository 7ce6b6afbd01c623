/** Each look tells of the hall as it is, whichever change came right before it. */
final class LooksAtOnceTest {
    private interface Change {
        void make(HallSights hall);
    }

    private interface Look {
        long ask(HallSights hall);
    }

    private static final Change[] CHANGES = {
        x -> x.addRow(15, 0, 3), x -> x.removeRow(0), x -> x.lift(1, 50), x -> x.lift(0, 90),
        x -> x.addColumn(5, 0, 2), x -> x.removeColumn(0), x -> x.set(2, 100), x -> x.set(0, 20),
        x -> x.take(0, 2), x -> x.leave(0, 1), x -> x.seatParty(2), x -> x.clear(),
        x -> x.liftAll(), x -> x.addAll(), x -> x.undo(),
    };
    private static final Look[] LOOKS = {
        x -> x.row(1, 4), x -> x.row(1, 3), x -> x.row(1, 5), x -> x.seat(1, 1, 2),
        x -> x.seat(1, 1, 3), x -> x.seat(1, 1, 4), x -> x.seat(0, 1, 5), x -> x.seat(1, 1, 6),
        x -> x.best(0), x -> x.best(2), x -> x.whoBlocks(1, 1), x -> x.count(4), x -> x.count(5),
        x -> x.count(6), x -> x.count(7), x -> x.leastHeight(1), x -> x.ifLifted(1, 60),
        x -> x.ifTaken(0, 1), x -> x.ifTaken(1, 1), x -> x.worstColumn(),
        x -> (long) (x.seeingShare() * 1000.0), x -> x.digest(),
    };

    private LooksAtOnceTest() {
    }

    public static void main(String[] args) {
        for (int look = 0; look < LOOKS.length; look++) {
            long before = LOOKS[look].ask(hall());
            int moved = 0;
            for (int change = 0; change < CHANGES.length; change++) {
                HallSights x = hall();
                x.digest();
                CHANGES[change].make(x);
                long got = LOOKS[look].ask(x);
                HallSights y = hall();
                CHANGES[change].make(y);
                y.digest();
                long want = LOOKS[look].ask(y);
                Check.same("look " + look + " right behind change " + change, got, want);
                moved += want == before ? 0 : 1;
            }
            Check.holds("changes change what look " + look + " answers", moved > 0);
        }
        Check.end("LooksAtOnceTest");
    }

    private static HallSights hall() {
        HallSights x = new HallSights();
        x.addRow(10, 0, 4);
        x.addRow(20, 10, 5);
        x.addRow(30, 30, 4);
        x.addColumn(15, -1, 1);
        x.addColumn(12, 3, 0);
        x.take(0, 1);
        x.take(2, 0);
        x.take(2, 2);
        x.take(1, 4);
        Check.write(x, "5^150*2;6^10*3");
        return x;
    }
}
