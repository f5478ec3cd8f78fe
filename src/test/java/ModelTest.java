import java.util.ArrayList;
import java.util.List;
import java.util.function.ToIntFunction;

/** Mixed runs of calls on PackDisk and on Model, with all that can be asked compared on the way and at the end. */
public final class ModelTest {
    private static final int RUNS = 1500, LONGEST = 300;
    private static int wrong = 0;
    private static int repaired = 0;

    private final Disk disk;
    private final Model model;
    private final List<ToIntFunction<Disk>> calls = new ArrayList<>();
    private final int run;
    private final int n;
    private final int style;
    private long seed;
    private final StringBuilder told = new StringBuilder();

    private ModelTest(int run) {
        this.run = run;
        seed = run * 0x9E3779B97F4A7C15L + 12345;
        n = below(3) == 0 ? below(80) - 10 : 8 + below(53);
        style = below(4);
        disk = new Disk(n);
        model = new Model(n);
    }

    /** A number that hangs on the run and the call alone. */
    private int below(int bound) {
        seed = seed * 6364136223846793005L + 1442695040888963407L;
        return (int) ((seed >>> 33) % bound);
    }

    private void due(String call, int got, int want) {
        if (got != want) {
            wrong++;
            if (wrong < 4) {
                System.out.println("run " + run + " (n " + n + "): " + call + " answered " + got + ", due is " + want
                    + "\nbehind:\n" + told);
            }
        }
    }

    /** A call of the run. */
    private void same(String name, ToIntFunction<Disk> call, int want) {
        calls.add(call);
        due(name, call.applyAsInt(disk), want);
        told.append(name).append(" = ").append(want).append('\n');
    }

    private void oneCall() {
        int choice = below(100);
        if (choice < 38) {
            write();
        } else if (choice < 50) {
            int row = below(12) == 0 ? below(70) - 5 : below(Math.max(1, model.told(2)));
            int k = below(10) == 0 ? below(5) - 1 : 1 + below(2);
            same("protect(" + row + ", " + k + ")", x -> x.protect(row, k), model.protect(row, k));
        } else if (choice < 56) {
            same("sync()", Disk::sync, model.sync());
        } else if (choice < 60) {
            power();
        } else if (choice < 70 && style > 0) {
            loseAndComeBack();
        } else if (choice < 80 && style > 0) {
            hurt();
        } else if (choice < 85 && style > 1) {
            forge();
        } else {
            ask();
        }
    }

    private void write() {
        int kind = below(12) == 0 ? below(30) - 10 : below(10);
        same("open(" + kind + ")", x -> x.open(kind), model.open(kind));
        int adds = below(8) == 0 ? 14 : below(13);
        // Few values, so that equal blocks come often.
        int values = below(3) == 0 ? 1000 : 2;
        for (int a = 0; a < adds; a++) {
            int k = below(12) == 0 ? below(12) - 2 : below(3) > 0 ? 8 : 1 + below(8);
            long bytes = below(values) * 0x9F3B00FF81C20107L;
            same("add(" + bytes + "L, " + k + ")", x -> x.add(bytes, k), model.add(bytes, k));
        }
        if (below(8) > 0) {
            same("end()", Disk::end, model.end());
        }
    }

    private void power() {
        int notKept = model.told(4);
        int keep = below(10) == 0 ? below(80) - 10 : below(notKept + 1);
        int tear = below(10) == 0 ? below(40) - 4 : 1 + below(31);
        same("cut(" + keep + ", " + tear + ")", x -> x.cut(keep, tear), model.cut(keep, tear));
        if (below(6) == 0) {
            compareAll();
        }
        for (int k = below(4); k > 0 && style > 0; k--) {
            hurt();
        }
        if (below(6) > 0) {
            start();
            if (below(4) == 0) {
                compareAll();
            }
        }
    }

    /** A row is protected, some of its blocks are lost, and a start is to bring them back. */
    private void loseAndComeBack() {
        int row = below(Math.max(1, model.told(2)));
        int symbols = 1 + below(2);
        same("protect(" + row + ", " + symbols + ")", x -> x.protect(row, symbols), model.protect(row, symbols));
        for (int k = 0; k < 4; k++) {
            int sector = model.row(row, 10 + k);
            if (below(2) == 0) {
                same("lose(" + sector + ")", x -> x.lose(sector), model.lose(sector));
            }
        }
        int keep = model.told(4);
        same("cut(" + keep + ", 1)", x -> x.cut(keep, 1), model.cut(keep, 1));
        start();
    }

    private void start() {
        same("start()", Disk::start, model.start());
        repaired += model.told(5);
    }

    private int someSector() {
        int all = model.told(9);
        int used = Math.max(2, model.told(1));
        return below(20) == 0 ? below(all + 20) - 10 : below(5) == 0 ? below(all) : below(used);
    }

    private void hurt() {
        int s = someSector();
        if (below(3) > 0) {
            same("lose(" + s + ")", x -> x.lose(s), model.lose(s));
        } else {
            poke(s, below(15) == 0 ? below(60) - 10 : below(32), below(15) == 0 ? below(600) - 100 : 1 << below(8));
        }
    }

    private void poke(int s, int i, int mask) {
        same("poke(" + s + ", " + i + ", " + mask + ")", x -> x.poke(s, i, mask), model.poke(s, i, mask));
    }

    /** Bytes change and the sum fits again: sectors that the disk itself never writes. */
    private void forge() {
        int s = Math.floorMod(someSector(), model.told(9));
        for (int k = 1 + below(2); k > 0; k--) {
            int i = below(10);
            int value = below(4) == 0 ? below(256) : i == 0 ? below(6) : below(64);
            poke(s, i, model.octet(s, i) ^ value);
        }
        byte[] now = new byte[32];
        for (int i = 0; i < 32; i++) {
            now[i] = (byte) model.octet(s, i);
        }
        int sum = Model.sum(now);
        for (int k = 0; k < 4; k++) {
            poke(s, 28 + k, (sum >>> (24 - 8 * k) & 255) ^ model.octet(s, 28 + k));
        }
    }

    private void ask() {
        int r = below(70) - 5;
        int what = below(20) - 3;
        int i = below(110) - 8;
        same("row(" + r + ", " + what + ")", x -> x.row(r, what), model.row(r, what));
        same("listed(" + r + ")", x -> x.listed(r), model.listed(r));
        same("told(" + what + ")", x -> x.told(what), model.told(what));
        same("whole(" + r + ")", x -> x.whole(r), model.whole(r));
        same("octet(" + r + ", " + what + ")", x -> x.octet(r, what), model.octet(r, what));
        same("at(" + r + ", " + i + ")", x -> x.at(r, i), byteOf(r, i));
    }

    private int byteOf(int row, int i) {
        try {
            return model.at(row, i);
        } catch (ArrayIndexOutOfBoundsException e) {
            return Disk.THROWN;
        }
    }

    private void compareAll() {
        List<ToIntFunction<Disk>> soFar = new ArrayList<>(calls);
        Story story = new Story(n, x -> soFar.forEach(call -> call.applyAsInt(x)));
        for (int k = 0; k < 10; k++) {
            int what = k;
            due("told(" + what + ")", story.ask(x -> x.told(what)), model.told(what));
        }
        for (int k = 0; k < model.told(9) * 33; k++) {
            int s = k / 33;
            int i = k % 33 - 1;
            if (i < 0) {
                due("whole(" + s + ")", story.ask(x -> x.whole(s)), model.whole(s));
            } else {
                due("octet(" + s + ", " + i + ")", story.ask(x -> x.octet(s, i)), model.octet(s, i));
            }
        }
        for (int k = 0; k < model.told(2); k++) {
            int row = k;
            compareRow(story, row);
            due("listed(" + row + ")", story.ask(x -> x.listed(row)), model.listed(row));
        }
    }

    private void compareRow(Story story, int row) {
        for (int k = 0; k < 14; k++) {
            int what = k;
            due("row(" + row + ", " + what + ")", story.ask(x -> x.row(row, what)), model.row(row, what));
        }
        for (int k = -1; k < 97; k += 7) {
            int i = k;
            due("at(" + row + ", " + i + ")", story.ask(x -> x.at(row, i)), byteOf(row, i));
        }
    }

    private void go() {
        int length = 20 + below(LONGEST - 20);
        while (calls.size() < length && wrong == 0) {
            oneCall();
        }
        compareAll();
    }

    public static void main(String[] args) {
        for (int run = 1; run <= RUNS && wrong < 4; run++) {
            new ModelTest(run).go();
        }
        System.out.println(wrong == 0 ? "all answers are as due" : wrong + " answers are not as due");
        System.out.println(repaired + " sectors were repaired on the way");
        if (wrong != 0) {
            System.exit(1);
        }
    }
}
