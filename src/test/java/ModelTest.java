/** Long mixed runs of calls on PackDisk and on Model, with all that can be asked compared on the way. */
public final class ModelTest {
    private static final int RUNS = 1500, CALLS = 400;
    private static int wrong = 0;

    private final PackDisk disk;
    private final Model model;
    private final int run;
    private final int n;
    private final int style;
    private long seed;
    private final StringBuilder story = new StringBuilder();

    private ModelTest(int run) {
        this.run = run;
        seed = run * 0x9E3779B97F4A7C15L + 12345;
        n = below(3) == 0 ? below(80) - 10 : 8 + below(53);
        style = below(4);
        disk = new PackDisk(n);
        model = new Model(n);
    }

    /** A number that hangs on the run and the call alone. */
    private int below(int bound) {
        seed = seed * 6364136223846793005L + 1442695040888963407L;
        return (int) ((seed >>> 33) % bound);
    }

    private void same(String call, int got, int want) {
        story.append(call).append(" = ").append(want).append('\n');
        if (got != want) {
            wrong++;
            if (wrong < 4) {
                System.out.println("run " + run + " (n " + n + "): " + call + " answered " + got + ", due is " + want
                    + "\nbehind:\n" + story);
            }
        }
    }

    private void oneCall() {
        int choice = below(100);
        if (choice < 38) {
            write();
        } else if (choice < 50) {
            int row = below(12) == 0 ? below(70) - 5 : below(Math.max(1, model.told(2)));
            int k = below(10) == 0 ? below(5) - 1 : 1 + below(2);
            same("protect(" + row + ", " + k + ")", disk.protect(row, k), model.protect(row, k));
        } else if (choice < 56) {
            same("sync()", disk.sync(), model.sync());
        } else if (choice < 62) {
            power();
        } else if (choice < 80 && style > 0) {
            hurt();
        } else if (choice < 85 && style > 1) {
            forge();
        } else {
            ask();
        }
    }

    private void write() {
        int kind = below(12) == 0 ? below(30) - 10 : below(10);
        same("open(" + kind + ")", disk.open(kind), model.open(kind));
        int adds = below(8) == 0 ? 14 : below(13);
        // Few values, so that equal blocks come often.
        int values = below(3) == 0 ? 1000 : 2;
        for (int a = 0; a < adds; a++) {
            int k = below(12) == 0 ? below(12) - 2 : below(3) > 0 ? 8 : 1 + below(8);
            long bytes = below(values) * 0x9F3B00FF81C20107L;
            same("add(" + bytes + "L, " + k + ")", disk.add(bytes, k), model.add(bytes, k));
        }
        if (below(8) > 0) {
            same("end()", disk.end(), model.end());
        }
    }

    private void power() {
        int notKept = model.told(4);
        int keep = below(10) == 0 ? below(80) - 10 : below(notKept + 1);
        int tear = below(10) == 0 ? below(40) - 4 : 1 + below(31);
        same("cut(" + keep + ", " + tear + ")", disk.cut(keep, tear), model.cut(keep, tear));
        compareAll();
        for (int k = below(4); k > 0 && style > 0; k--) {
            hurt();
        }
        if (below(6) > 0) {
            same("start()", disk.start(), model.start());
        }
    }

    private int someSector() {
        int all = model.told(9);
        int used = Math.max(2, model.told(1));
        return below(20) == 0 ? below(all + 20) - 10 : below(5) == 0 ? below(all) : below(used);
    }

    private void hurt() {
        int s = someSector();
        if (below(3) > 0) {
            same("lose(" + s + ")", disk.lose(s), model.lose(s));
        } else {
            poke(s, below(15) == 0 ? below(60) - 10 : below(32), below(15) == 0 ? below(600) - 100 : 1 << below(8));
        }
    }

    private void poke(int s, int i, int mask) {
        same("poke(" + s + ", " + i + ", " + mask + ")", disk.poke(s, i, mask), model.poke(s, i, mask));
    }

    /** Bytes change and the sum fits again: sectors that the disk itself never writes. */
    private void forge() {
        int s = Math.floorMod(someSector(), model.told(9));
        int[] often = {0, 1, 2, 3, 4, 5, 6, 7, 8, 9};
        for (int k = 1 + below(2); k > 0; k--) {
            int i = often[below(often.length)];
            int value = below(4) == 0 ? below(256) : i == 0 ? below(6) : below(64);
            poke(s, i, model.octet(s, i) ^ value);
        }
        byte[] now = new byte[32];
        for (int i = 0; i < 32; i++) {
            now[i] = (byte) model.octet(s, i);
        }
        int sum = Model.sum(now);
        for (int k = 0; k < 4; k++) {
            poke(s, 28 + k, (sum >>> (24 - 8 * k) & 255) ^ model.octet(s, 28 + k));
        }
    }

    private void ask() {
        int r = below(70) - 5;
        int what = below(20) - 3;
        same("row(" + r + ", " + what + ")", disk.row(r, what), model.row(r, what));
        same("listed(" + r + ")", disk.listed(r), model.listed(r));
        same("told(" + what + ")", disk.told(what), model.told(what));
        same("whole(" + r + ")", disk.whole(r), model.whole(r));
        same("octet(" + r + ", " + what + ")", disk.octet(r, what), model.octet(r, what));
        byteOf(r, below(110) - 8);
    }

    private void byteOf(int row, int i) {
        int got;
        int want;
        try {
            got = disk.at(row, i);
        } catch (ArrayIndexOutOfBoundsException e) {
            got = 1000;
        }
        try {
            want = model.at(row, i);
        } catch (ArrayIndexOutOfBoundsException e) {
            want = 1000;
        }
        same("at(" + row + ", " + i + ")", got, want);
    }

    private void compareAll() {
        int length = story.length();
        for (int what = 0; what < 10; what++) {
            same("told(" + what + ")", disk.told(what), model.told(what));
        }
        for (int s = 0; s < model.told(9); s++) {
            same("whole(" + s + ")", disk.whole(s), model.whole(s));
            for (int i = 0; i < 32; i++) {
                same("octet(" + s + ", " + i + ")", disk.octet(s, i), model.octet(s, i));
            }
        }
        for (int r = 0; r < model.told(2); r++) {
            for (int what = 0; what < 14; what++) {
                same("row(" + r + ", " + what + ")", disk.row(r, what), model.row(r, what));
            }
            for (int i = -1; i < 97; i += 7) {
                byteOf(r, i);
            }
            same("listed(" + r + ")", disk.listed(r), model.listed(r));
        }
        story.setLength(length);
    }

    private void go() {
        // The document's bound is 512 calls; a step here may be several, none of which a bound of the disk hangs on.
        for (int c = 0; c < CALLS / 8 && wrong == 0; c++) {
            oneCall();
            if (c % 8 == 7) {
                compareAll();
            }
        }
        compareAll();
    }

    public static void main(String[] args) {
        long repaired = 0;
        for (int run = 1; run <= RUNS; run++) {
            ModelTest test = new ModelTest(run);
            test.go();
            repaired += test.disk.told(5);
        }
        System.out.println(wrong == 0 ? "all answers are as due" : wrong + " answers are not as due");
        System.out.println(repaired + " sectors were repaired in the latest starts");
        if (wrong != 0) {
            System.exit(1);
        }
    }
}
