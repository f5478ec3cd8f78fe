/** The sentences of REPAIR: when lost blocks come back, and when there is no way or more than one. */
public final class RepairTest {
    private static final int NONE = Disk.NONE, MISSING = Disk.MISSING;
    private static final int NEITHER = 0, P = 1, Q = 2, BOTH = 3;

    /** A row of some blocks with the told symbols, all kept; then the told sectors are lost, and it starts anew. */
    private static Disk hurt(int symbols, int[] starts, int... lost) {
        Disk x = new Disk(20);
        x.lay(1, starts);
        int last = x.protect(0, 2);
        if ((symbols & P) == 0) {
            x.lose(last - 1);
        }
        if ((symbols & Q) == 0) {
            x.lose(last);
        }
        x.sync();
        for (int s : lost) {
            x.lose(s);
        }
        x.restart();
        return x;
    }

    private static void dueAll(String what, Disk x, int repaired, int... starts) {
        Checks.due(what + ": repaired", x.told(5), repaired);
        Checks.due(what + ": missing", x.row(0, 6), 0);
        Checks.due(what + ": listed", x.listed(0), NONE);
        for (int i = 0; i < 24 * starts.length; i++) {
            Checks.due(what + ": byte " + i, x.at(0, i), starts[i / 24] + i % 24 & 255);
        }
    }

    private static void dueNothing(String what, Disk x, int missing) {
        Checks.due(what + ": repaired", x.told(5), 0);
        Checks.due(what + ": missing", x.row(0, 6), missing);
        Checks.due(what + ": listed", x.listed(0), 0);
    }

    private static void oneWay() {
        Checks.sentence("there is just one way to fill their SECTORS such that P and Q (those that it has) are as told");
        int[][] rows = {{230}, {10, 100}, {10, 100, 190}, {10, 100, 190, 230}};
        for (int[] row : rows) {
            int blocks = row.length;
            for (int a = 2; a < 2 + blocks; a++) {
                String one = a + " of " + blocks;
                dueAll("by P, " + one, hurt(P, row, a), 1, row);
                dueAll("by Q, " + one, hurt(Q, row, a), 1, row);
                dueAll("by both, " + one, hurt(BOTH, row, a), 1, row);
                dueNothing("by neither, " + one, hurt(NEITHER, row, a), 1);
                for (int b = a + 1; b < 2 + blocks; b++) {
                    String two = a + " and " + b + " of " + blocks;
                    dueAll("by both, " + two, hurt(BOTH, row, a, b), 2, row);
                    dueNothing("by P, " + two, hurt(P, row, a, b), 2);
                    dueNothing("by Q, " + two, hurt(Q, row, a, b), 2);
                    dueNothing("by neither, " + two, hurt(NEITHER, row, a, b), 2);
                }
            }
        }
        int[] four = {10, 100, 190, 230};
        dueNothing("three", hurt(BOTH, four, 2, 3, 4), 3);
        dueNothing("three", hurt(BOTH, four, 3, 4, 5), 3);
        dueNothing("four", hurt(BOTH, four, 2, 3, 4, 5), 4);
        manyWays();
        dueAll("none is missing", hurt(BOTH, four), 0, four);
        dueAll("none is missing, no symbols", hurt(NEITHER, four), 0, four);
        dueAll("no blocks at all", hurt(BOTH, new int[0]), 0);
    }

    /** P and Q of 0s, which blocks of 0s would fit, but others too. */
    private static void manyWays() {
        for (int blocks = 1; blocks <= 4; blocks++) {
            Disk x = new Disk(20);
            x.put(2, Disk.sector(3, 1, 0, 24 * blocks, 3, blocks > 1 ? 4 : 0, blocks > 2 ? 5 : 0, blocks > 3 ? 6 : 0));
            x.put(7, Disk.sector(4, 0, 0, 0));
            x.put(8, Disk.sector(4, 0, 1, 0));
            x.put(1, Disk.head(1, 9, 1));
            x.restart();
            Checks.due(blocks + " missing, P and Q of 0s: repaired", x.told(5), blocks <= 2 ? blocks : 0);
            Checks.due(blocks + " missing, P and Q of 0s: missing", x.row(0, 6), blocks <= 2 ? 0 : blocks);
        }
    }

    private static void bytesOfAllValues() {
        Checks.sentence("these are written so (of SORT 2)");
        for (int value : new int[] {0, 1, 127, 128, 255}) {
            Disk x = new Disk(12);
            x.open(1);
            x.add(value, 8);
            x.add(0, 8);
            x.add((long) value << 56, 8);
            x.addBytes(50, 24);
            x.addBytes(90, 24);
            x.add(256 + value, 2);
            x.end();
            x.protect(0, 2);
            x.sync();
            x.lose(2);
            x.lose(5);
            x.restart();
            Checks.due("value " + value + ": repaired", x.told(5), 2);
            int[] first = new int[24];
            first[0] = value;
            first[23] = value;
            Checks.dueBytes("value " + value + ", block 0", x, 2, Disk.sector(2, 0, 0, 0, first));
            Checks.dueBytes("value " + value + ", block 3", x, 5, Disk.sector(2, 0, 0, 0, value, 1));
            Checks.due("value " + value + ": none is lost", x.told(8), 0);
            Checks.due("value " + value + ": NEXT", x.told(1), 9);
            Checks.due("value " + value + ": kept", x.told(4), 0);
        }
    }

    private static void oneSectorForSeveralBlocks() {
        Checks.sentence("just one way to fill their SECTORS");
        int[] twice = {10, 10};
        dueNothing("twice, P: any would do", hurt(P, twice, 2), 2);
        dueAll("twice, Q", hurt(Q, twice, 2), 1, twice);
        dueAll("twice, both", hurt(BOTH, twice, 2), 1, twice);
        int[] thrice = {10, 10, 50, 10};
        dueAll("thrice, P", hurt(P, thrice, 2), 1, thrice);
        dueAll("thrice, Q", hurt(Q, thrice, 2), 1, thrice);
        dueAll("thrice and once, both", hurt(BOTH, thrice, 2, 3), 2, thrice);
        dueNothing("thrice and once, P", hurt(P, thrice, 2, 3), 4);
        int[] fourTimes = {10, 10, 10, 10};
        dueNothing("four times, P", hurt(P, fourTimes, 2), 4);
        dueAll("four times, Q", hurt(Q, fourTimes, 2), 1, fourTimes);
        int[] mixed = {10, 50, 50};
        dueAll("once and twice, both", hurt(BOTH, mixed, 2, 3), 2, mixed);
        int[] pairs = {10, 50, 10, 50};
        dueNothing("two pairs, both: P asks nothing", hurt(BOTH, pairs, 2, 3), 4);
        dueAll("one of two pairs, both", hurt(BOTH, pairs, 3), 1, pairs);
    }

    private static void noWay() {
        Checks.sentence("such that P and Q (those that it has) are as told");
        Story wrongP = new Story(20, x -> {
            x.lay(1, 10, 100);
            x.protect(0, 2);
            x.forge(5, Disk.sector(4, 0, 0, 0));
            x.sync();
            x.lose(2);
        });
        Disk x = wrongP.then(Disk::restart).again();
        dueNothing("one block, P and Q tell two things", x, 1);
        Checks.due("it is still lost", x.lose(2), 0);
        x = wrongP.then(y -> {
            y.lose(6);
            y.restart();
        }).again();
        Checks.due("P alone fits anything", x.told(5), 1);
        Checks.due("by that P", x.at(0, 3), 103);
        x = wrongP.then(y -> {
            y.lose(5);
            y.restart();
        }).again();
        Checks.due("Q alone fits anything", x.told(5), 1);
        Checks.due("by Q", x.at(0, 3), 13);
        x = wrongP.then(y -> {
            y.lose(3);
            y.restart();
        }).again();
        Checks.due("two blocks fit any P and Q", x.told(5), 2);
        lastByteDoesNotFit();
        pairLeavesNoWay();
    }

    private static void lastByteDoesNotFit() {
        for (int i : new int[] {0, 23}) {
            int[] p = Disk.counting(100);
            for (int k = 0; k < 24; k++) {
                p[k] ^= 10 + k;
            }
            p[i] ^= 1;
            Disk x = new Disk(20);
            x.lay(1, 10, 100);
            x.protect(0, 2);
            x.forge(5, Disk.sector(4, 0, 0, 0, p));
            x.sync();
            x.lose(3);
            x.restart();
            dueNothing("only byte " + i + " does not fit", x, 1);
            Checks.due("nothing was written", x.whole(3), 0);
        }
    }

    private static void pairLeavesNoWay() {
        Story pair = new Story(20, x -> {
            x.lay(1, 10, 10);
            x.protect(0, 2);
            x.forge(4, Disk.sector(4, 0, 0, 0, 1));
            x.sync();
            x.lose(2);
        });
        dueNothing("P of a pair is 0 or there is no way", pair.then(Disk::restart).again(), 2);
        Disk x = pair.then(y -> {
            y.lose(4);
            y.restart();
        }).again();
        Checks.due("without that P", x.told(5), 1);
        Checks.due("by Q", x.at(0, 30), 16);
    }

    private static void lastWholeSymbols() {
        Checks.sentence("Its P, its Q are the last WHOLE ones of THE LOG");
        Disk x = new Disk(20);
        x.lay(1, 10, 100);
        x.protect(0, 1);
        x.protect(0, 1);
        x.protect(0, 1);
        x.forge(6, Disk.sector(4, 0, 0, 0));
        x.sync();
        x.lose(7);
        x.lose(3);
        x.restart();
        Checks.due("by the last whole P", x.at(0, 24), 10);
        x = new Disk(20);
        x.lay(1, 10, 100);
        x.lay(2, 10, 150);
        x.protect(1, 2);
        x.sync();
        x.lose(3);
        x.restart();
        Checks.due("another row's P is not its", x.told(5), 0);
        Checks.due("missing", x.at(0, 24), MISSING);
    }

    private static void allInTheLog() {
        Checks.sentence("if BLOCKS of it are MISSING, all of them in THE LOG");
        for (int told : new int[] {0, 1, 9, 12, 255}) {
            Disk x = new Disk(12);
            x.put(2, Disk.sector(2, 0, 0, 0, 1, 2));
            x.put(3, Disk.sector(3, 1, 0, 48, 2, told));
            x.put(4, Disk.sector(4, 0, 0, 0, 7, 7));
            x.put(5, Disk.sector(4, 0, 1, 0, 7, 7));
            x.put(6, Disk.sector(2, 0, 0, 0, 5));
            x.put(1, Disk.head(3, 9, 1));
            x.restart();
            dueNothing("told in " + told, x, 1);
            x.lose(2);
            x.cut(0, 1);
            x.start();
            dueNothing("told in " + told + ", one more in the log", x, 2);
            Checks.due("told in " + told + ": it is still lost", x.lose(2), 0);
        }
        for (int told : new int[] {7, 8}) {
            Disk x = new Disk(12);
            x.put(2, Disk.sector(2, 0, 0, 0, 1, 2));
            x.put(3, Disk.sector(3, 1, 0, 48, 2, told));
            x.put(4, Disk.sector(4, 0, 0, 0, 7, 7));
            x.put(1, Disk.head(3, 9, 1));
            x.restart();
            Checks.due("told in " + told + ", in the log, never written", x.told(5), 1);
            Checks.dueBytes("told in " + told, x, told, Disk.sector(2, 0, 0, 0, 6, 5));
        }
        firstSectorOfTheLog();
    }

    private static void firstSectorOfTheLog() {
        Disk x = new Disk(12);
        x.lay(1, 10);
        x.protect(0, 1);
        x.sync();
        x.lose(2);
        x.restart();
        Checks.dueBytes("the first sector of the log", x, 2, Disk.sector(2, 0, 0, 0, Disk.counting(10)));
    }

    private static void whateverStandsThere() {
        Checks.sentence("these are written so (of SORT 2): REPAIRED");
        Disk x = new Disk(12);
        x.lay(1, 10, 50);
        x.protect(0, 1);
        x.sync();
        x.poke(2, 0, 255);
        x.poke(2, 31, 255);
        x.poke(2, 2, 255);
        x.restart();
        Checks.dueBytes("one that was poked", x, 2, Disk.sector(2, 0, 0, 0, Disk.counting(10)));
        Checks.due("repaired", x.told(5), 1);
        x = new Disk(12);
        x.lay(1, 10, 50);
        x.protect(0, 1);
        x.sync();
        x.forge(2, Disk.sector(4, 9, 9, 9));
        x.restart();
        Checks.dueBytes("a whole one of another sort", x, 2, Disk.sector(2, 0, 0, 0, Disk.counting(10)));
        Checks.due("repaired", x.told(5), 1);
    }

    private static void againTillNothing() {
        Checks.sentence("ROW by ROW, from 0 on, of those that are not AWAY, and again, till a round brought nothing");
        // Row k has the blocks k and k + 1, the last row one block alone: each round brings the last missing one.
        int rows = 15;
        Story chain = new Story(60, x -> {
            for (int k = 0; k < rows - 1; k++) {
                x.lay(1, 10 * k, 10 * k + 10);
            }
            x.lay(1, 10 * (rows - 1));
            for (int k = 0; k < rows; k++) {
                x.protect(k, 1);
            }
            x.sync();
            x.lose(2);
            x.lose(3);
            for (int k = 1; k < rows - 1; k++) {
                x.lose(x.row(k, 11));
            }
        });
        Disk x = chain.again();
        Checks.due("all rows are hurt", x.listed(rows - 1), rows - 1);
        x.restart();
        Checks.due("as many rounds as rows", x.told(5), rows);
        Checks.due("none is hurt", x.listed(0), NONE);
        for (int k = 0; k < rows; k++) {
            Checks.due("row " + k, x.at(k, 23), 10 * k + 23);
        }
        x = chain.again();
        x.lose(x.row(7, 2));
        x.restart();
        Checks.due("behind one that is away", x.told(5), rows - 8);
        Checks.due("the first that is hurt", x.listed(0), 0);
        Checks.due("the last that is hurt", x.listed(7), 7);
        Checks.due("no more", x.listed(8), NONE);
        fromTheFirstOn();
    }

    private static void fromTheFirstOn() {
        Disk x = new Disk(60);
        // Both rows could bring the block back; the symbols of the later one tell other bytes.
        x.lay(1, 10);
        x.lay(2, 10);
        x.protect(1, 1);
        x.protect(0, 1);
        x.forge(5, Disk.sector(4, 1, 0, 0, 99));
        x.sync();
        x.lose(2);
        x.restart();
        Checks.due("by row 0", x.at(0, 0), 10);
        Checks.due("once", x.told(5), 1);
    }

    private static void awayRows() {
        Checks.sentence("of those that are not AWAY");
        Disk x = new Disk(12);
        x.lay(1, 10);
        x.protect(0, 2);
        x.sync();
        x.lose(2);
        x.lose(3);
        x.restart();
        Checks.due("its row is away", x.told(5), 0);
        Checks.due("nothing came back", x.whole(2), 0);
        Checks.due("listed", x.listed(0), 0);
        x = new Disk(20);
        x.lay(1, 10);
        x.lay(2, 10, 50);
        x.protect(1, 1);
        x.sync();
        x.lose(2);
        x.lose(3);
        x.restart();
        Checks.due("another row brings the block", x.told(5), 1);
        Checks.due("its byte", x.at(1, 0), 10);
        Checks.due("the row stays away", x.listed(0), 0);
        Checks.due("the other one is well", x.listed(1), NONE);
    }

    private static void latestStart() {
        Checks.sentence("5 how many SECTORS the latest START REPAIRED (0 before)");
        Disk x = new Disk(12);
        Checks.due("before", x.told(5), 0);
        x.lay(1, 10, 50);
        x.protect(0, 2);
        x.sync();
        x.lose(2);
        x.lose(3);
        Checks.due("before", x.told(5), 0);
        x.restart();
        Checks.due("two", x.told(5), 2);
        x.lay(2);
        x.sync();
        Checks.due("still the latest", x.told(5), 2);
        x.lose(2);
        x.cut(0, 1);
        Checks.due("OFF, still the latest", x.told(5), 2);
        x.start();
        Checks.due("one", x.told(5), 1);
        x.restart();
        Checks.due("none", x.told(5), 0);
    }

    public static void main(String[] args) {
        oneWay();
        bytesOfAllValues();
        oneSectorForSeveralBlocks();
        noWay();
        lastWholeSymbols();
        allInTheLog();
        whateverStandsThere();
        againTillNothing();
        awayRows();
        latestStart();
        Checks.finish();
    }
}
