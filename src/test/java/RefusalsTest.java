import java.util.function.ToIntFunction;

/**
 * "Calls answer, the first of these that fits: BAD (a number is not as told, none such), NO (as told),
 * FULL (as told); then nothing changes." Each refused call, in each state that refuses it, where two
 * answers fit too; and all that the object holds is held against what it held ahead of the call.
 */
public final class RefusalsTest {
    private static final int NONE = Disk.NONE, BAD = Disk.BAD, NO = Disk.NO, FULL = Disk.FULL;
    private static final int MISSING = Disk.MISSING, THROWN = Disk.THROWN, LEAST = Disk.LEAST, MOST = Disk.MOST;

    private static String name;
    private static Story story;

    private static void in(String newName, Story newStory) {
        name = newName;
        story = newStory;
    }

    private static void refused(String call, ToIntFunction<Disk> it, int want) {
        Checks.due(name + ", " + call, it.applyAsInt(story.again()), want);
        Checks.dueSame(name + ", " + call + " changed something",
            story.then(x -> it.applyAsInt(x)).state(), story.state());
    }

    private static void open(int kind, int want) {
        refused("open(" + kind + ")", x -> x.open(kind), want);
    }

    private static void add(int n, int want) {
        refused("add(-1, " + n + ")", x -> x.add(-1L, n), want);
    }

    private static void end(int want) {
        refused("end()", Disk::end, want);
    }

    private static void protect(int row, int n, int want) {
        refused("protect(" + row + ", " + n + ")", x -> x.protect(row, n), want);
    }

    private static void cut(int keep, int tear, int want) {
        refused("cut(" + keep + ", " + tear + ")", x -> x.cut(keep, tear), want);
    }

    private static void at(int row, int i, int want) {
        refused("at(" + row + ", " + i + ")", x -> x.at(row, i), want);
    }

    private static void row(int row, int what, int want) {
        refused("row(" + row + ", " + what + ")", x -> x.row(row, what), want);
    }

    private static void poke(int sector, int i, int mask) {
        refused("poke(" + sector + ", " + i + ", " + mask + ")", x -> x.poke(sector, i, mask), BAD);
    }

    private static void octet(int sector, int i) {
        refused("octet(" + sector + ", " + i + ")", x -> x.octet(sector, i), BAD);
    }

    /** The numbers that no state makes right: BAD goes ahead of all else that may fit. */
    private static void badNumbers(int n, int rows) {
        for (int kind : new int[] {LEAST, -1, 10, MOST}) {
            open(kind, BAD);
        }
        for (int count : new int[] {LEAST, -1, 0, 9, MOST}) {
            add(count, BAD);
        }
        for (int row : new int[] {LEAST, -1, rows, MOST}) {
            protect(row, 1, BAD);
            at(row, 0, BAD);
            row(row, 0, BAD);
        }
        for (int symbols : new int[] {LEAST, -1, 0, 3, MOST}) {
            protect(0, symbols, BAD);
        }
        for (int tear : new int[] {LEAST, -1, 0, 32, MOST}) {
            cut(0, tear, BAD);
        }
        // Behind NEXT = 2 there are 58 sectors at most, so 59 were never written.
        for (int keep : new int[] {LEAST, -1, 59, MOST}) {
            cut(keep, 1, BAD);
        }
        for (int what : new int[] {LEAST, -1, 7, 8, 9, 14, MOST}) {
            row(0, what, BAD);
        }
        badSectors(n);
        for (int what : new int[] {LEAST, -1, 10, MOST}) {
            refused("told(" + what + ")", x -> x.told(what), BAD);
        }
        for (int k : new int[] {LEAST, -1, MOST}) {
            refused("listed(" + k + ")", x -> x.listed(k), NONE);
        }
    }

    private static void badSectors(int n) {
        for (int sector : new int[] {LEAST, -1, n, MOST}) {
            refused("lose(" + sector + ")", x -> x.lose(sector), BAD);
            refused("whole(" + sector + ")", x -> x.whole(sector), BAD);
            octet(sector, 0);
            poke(sector, 0, 1);
        }
        for (int i : new int[] {LEAST, -1, 32, MOST}) {
            octet(2, i);
            poke(2, i, 1);
        }
        for (int mask : new int[] {LEAST, -1, 256, MOST}) {
            poke(2, 0, mask);
        }
    }

    private static void newObject() {
        in("a new object", new Story(8, x -> { }));
        badNumbers(8, 0);
        add(1, NO);
        add(8, NO);
        end(NO);
        refused("start()", Disk::start, NO);
        cut(1, 1, BAD);
        refused("listed(0)", x -> x.listed(0), NONE);
    }

    private static void oneIsOpen() {
        in("a row is open", new Story(16, x -> {
            x.lay(1, 10);
            x.open(4);
            x.addBytes(7, 3);
        }));
        badNumbers(16, 1);
        open(0, NO);
        open(9, NO);
        refused("start()", Disk::start, NO);
        // Two sectors were written and are not kept.
        cut(3, 1, BAD);
        at(0, 24, THROWN);
        at(0, -1, THROWN);
        at(0, LEAST, THROWN);
        at(0, MOST, THROWN);
    }

    private static Story openWith(int bytes) {
        return new Story(8, x -> {
            x.open(9);
            x.addBytes(100, bytes);
        });
    }

    private static void openRowIsFull() {
        in("96 bytes are open", openWith(96));
        add(1, FULL);
        add(8, FULL);
        add(0, BAD);
        add(9, BAD);
        open(0, NO);
        in("95 bytes are open", openWith(95));
        add(2, FULL);
        add(8, FULL);
        add(9, BAD);
        in("89 bytes are open", openWith(89));
        add(8, FULL);
        add(9, BAD);
    }

    private static void fourSectorsLeft() {
        Story four = new Story(8, x -> {
            x.lay(1);
            x.lay(2);
        });
        in("4 sectors are left", four);
        badNumbers(8, 2);
        open(0, FULL);
        open(9, FULL);
        add(1, NO);
        end(NO);
        in("4 sectors are left, OFF", four.then(x -> x.cut(2, 3)));
        open(0, NO);
        open(10, BAD);
    }

    private static void noSectorLeft() {
        Story one = new Story(8, x -> x.lay(1, 10, 50, 90, 130));
        in("1 sector is left", one);
        protect(0, 2, FULL);
        open(0, FULL);
        Story none = one.then(x -> x.protect(0, 1));
        in("no sector is left", none);
        badNumbers(8, 1);
        protect(0, 1, FULL);
        protect(0, 2, FULL);
        open(0, FULL);
        in("no sector is left, a block is missing", none.then(x -> x.lose(3)));
        protect(0, 1, NO);
        protect(0, 2, NO);
        protect(0, 3, BAD);
        at(0, 24, MISSING);
        at(0, 96, THROWN);
        in("no sector is left, the row is away", none.then(x -> x.lose(6)));
        badNumbers(8, 1);
        protect(0, 1, NO);
        at(0, 0, NO);
        at(0, 96, NO);
        at(0, -1, NO);
        row(0, 0, NONE);
        row(0, 13, NONE);
        in("no sector is left, OFF", none.then(x -> x.cut(6, 1)));
        protect(0, 1, NO);
        protect(0, 0, BAD);
        open(0, NO);
        open(-1, BAD);
    }

    private static Story openWithLeft(int left) {
        return new Story(3 + left, x -> {
            x.lay(1);
            x.open(2);
        });
    }

    private static void openAndFewSectorsLeft() {
        in("a row is open, 5 sectors are left", openWithLeft(5));
        protect(0, 1, FULL);
        protect(0, 2, FULL);
        protect(0, 0, BAD);
        protect(0, 3, BAD);
        protect(1, 1, BAD);
        open(0, NO);
        in("a row is open, 6 sectors are left", openWithLeft(6));
        protect(0, 2, FULL);
        in("a row is open, 5 sectors are left, a row is away", openWithLeft(5).then(x -> x.lose(2)));
        protect(0, 1, NO);
        protect(0, 3, BAD);
    }

    private static void sixtyRows() {
        Story sixty = new Story(12, x -> {
            x.put(1, Disk.head(5, 2, 60));
            x.restart();
        });
        in("60 rows", sixty);
        open(0, FULL);
        open(9, FULL);
        open(10, BAD);
        open(-1, BAD);
        protect(59, 1, NO);
        protect(59, 3, BAD);
        protect(60, 1, BAD);
        at(59, 0, NO);
        at(60, 0, BAD);
        row(59, 0, NONE);
        row(59, 14, BAD);
        row(60, 0, BAD);
        in("60 rows, OFF", sixty.then(x -> x.cut(0, 1)));
        open(0, NO);
        open(10, BAD);
    }

    private static void powerIsOff() {
        in("OFF", new Story(16, x -> {
            x.lay(1, 10);
            x.sync();
            x.lay(2, 50, 90);
            x.open(3);
            x.addBytes(7, 3);
            x.lose(3);
            x.cut(1, 7);
        }));
        badNumbers(16, 2);
        open(0, NO);
        add(1, NO);
        add(8, NO);
        end(NO);
        protect(0, 1, NO);
        protect(1, 2, NO);
        refused("sync()", Disk::sync, NO);
        cut(0, 1, NO);
        cut(0, 31, NO);
        // The row is away and has no such byte too: OFF comes ahead of both.
        at(0, 0, NO);
        at(0, 24, NO);
        at(1, 0, NO);
        at(1, -1, NO);
        row(0, 0, NO);
        row(1, 6, NO);
        row(1, 10, NO);
        row(1, 13, NO);
        refused("listed(0)", x -> x.listed(0), NONE);
    }

    public static void main(String[] args) {
        Checks.sentence("the first of these that fits: BAD, NO, FULL; then nothing changes");
        newObject();
        oneIsOpen();
        openRowIsFull();
        fourSectorsLeft();
        noSectorLeft();
        openAndFewSectorsLeft();
        sixtyRows();
        powerIsOff();
        Checks.finish();
    }
}
