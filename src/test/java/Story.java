import java.util.ArrayList;
import java.util.List;
import java.util.function.Consumer;
import java.util.function.ToIntFunction;

/** A run of calls that is made again on a new object whenever more is to be asked than one object may answer. */
final class Story {
    private final int n;
    private final Consumer<Disk> calls;
    private Disk asked;
    private List<Integer> state;

    Story(int n, Consumer<Disk> calls) {
        this.n = n;
        this.calls = calls;
    }

    Story then(Consumer<Disk> more) {
        return new Story(n, calls.andThen(more));
    }

    /** A new object behind these calls. */
    Disk again() {
        Disk x = new Disk(n);
        calls.accept(x);
        return x;
    }

    /** The answer to one call that changes nothing. */
    int ask(ToIntFunction<Disk> call) {
        if (asked == null || asked.callsLeft() < 1) {
            asked = again();
        }
        return call.applyAsInt(asked);
    }

    /** All that can be asked without a change. */
    private List<Integer> seen() {
        List<Integer> all = new ArrayList<>();
        for (int k = 0; k < 10; k++) {
            int what = k;
            all.add(ask(x -> x.told(what)));
        }
        int sectors = all.get(9);
        int rows = all.get(2);
        for (int k = 0; k < sectors * 33; k++) {
            int sector = k / 33;
            int i = k % 33;
            all.add(ask(x -> i < 32 ? x.octet(sector, i) : x.whole(sector)));
        }
        for (int k = 0; k < rows * 14; k++) {
            int row = k / 14;
            int what = k % 14;
            all.add(ask(x -> x.row(row, what)));
        }
        for (int k = 0; k < rows * 98; k++) {
            int row = k / 98;
            int i = k % 98 - 1;
            all.add(ask(x -> x.at(row, i)));
        }
        for (int k = 0; k <= rows; k++) {
            int place = k;
            all.add(ask(x -> x.listed(place)));
        }
        return all;
    }

    /** Which sectors are lost: only a call of lose tells, so an object of its own is asked. */
    private List<Integer> lostOnes() {
        List<Integer> all = new ArrayList<>();
        Disk x = again();
        int sectors = x.told(9);
        for (int s = 0; s < sectors; s++) {
            all.add(x.lose(s));
        }
        return all;
    }

    private List<Integer> disk() {
        List<Integer> all = seen();
        all.addAll(lostOnes());
        return all;
    }

    /**
     * All that the object holds, what shows only later too: the open row's bytes (it ends),
     * what stood ahead of the writes that are not kept (each cut), what a start makes of it.
     */
    List<Integer> state() {
        if (state == null) {
            state = disk();
            if (ask(x -> x.told(0)) == 0) {
                state.addAll(then(Disk::start).disk());
            } else {
                state.addAll(then(Disk::end).disk());
                int notKept = ask(x -> x.told(4));
                for (int k = 0; k <= notKept; k++) {
                    int keep = k;
                    state.addAll(then(x -> x.cut(keep, 1)).disk());
                }
                state.addAll(then(Disk::restart).disk());
            }
        }
        return state;
    }
}
