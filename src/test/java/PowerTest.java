/** The sentences under "Terms" 3 but for REPAIR: what is kept, SYNC, CUT and START. */
public final class PowerTest {
    private static final int NONE = Disk.NONE, BAD = Disk.BAD, NO = Disk.NO, LEAST = Disk.LEAST, MOST = Disk.MOST;
    private static final int[] ZEROS = new int[32];

    // ---- what is kept

    private static void notKept() {
        Checks.sentence("What was written since the latest SYNC (or START) is not KEPT.");
        Disk x = new Disk(60);
        Checks.due("nothing was written", x.told(4), 0);
        x.open(1);
        x.addBytes(1, 96);
        Checks.due("nothing yet", x.told(4), 0);
        x.end();
        Checks.due("four blocks and a row", x.told(4), 5);
        x.lay(1, 1);
        Checks.due("a row, its block was found", x.told(4), 6);
        x.protect(0, 1);
        Checks.due("P", x.told(4), 7);
        x.protect(0, 2);
        Checks.due("P and Q", x.told(4), 9);
        x.lose(2);
        x.poke(3, 4, 1);
        Checks.due("lose and poke write nothing", x.told(4), 9);
        x.poke(3, 4, 1);
        x.sync();
        Checks.due("SYNC", x.told(4), 0);
        x.lay(2);
        Checks.due("since then", x.told(4), 1);
        x.restart();
        Checks.due("START, and what it repaired is kept too", x.told(4), 0);
        Checks.due("it repaired one", x.told(5), 1);
        x.lay(2);
        Checks.due("since then", x.told(4), 1);
        Checks.due("keep 2", x.cut(2, 1), BAD);
        Checks.due("keep 1", x.cut(1, 1), 1);
    }

    private static void asManyAsThereAre() {
        Checks.sentence("Of what was written and is not KEPT, in order, the first ones stay");
        Story full = new Story(60, x -> {
            for (int k = 0; k < 54; k++) {
                x.lay(k % 10);
            }
            x.protect(0, 2);
            x.protect(1, 2);
        });
        Checks.due("all 58 are not kept", full.ask(x -> x.told(4)), 58);
        Checks.due("keep 59", full.ask(x -> x.cut(59, 1)), BAD);
        Disk x = full.then(y -> y.cut(58, 31)).again();
        Checks.due("keep 58: the last", x.whole(59), 4);
        x = full.then(y -> y.cut(57, 31)).again();
        Checks.due("keep 57: the last is torn", x.whole(59), 0);
        Checks.due("keep 57: the one ahead", x.whole(58), 4);
        x = full.then(y -> y.cut(0, 1)).again();
        for (int s = 3; s < 60; s++) {
            Checks.due("keep 0: byte 0 of " + s, x.octet(s, 0), 0);
        }
        Checks.due("keep 0: the torn one", x.octet(2, 0), 3);
    }

    // ---- SYNC

    private static void syncWritesTheHead() {
        Checks.sentence("SYNC: GENERATION (0 at first) is 1 more, and the HEAD is written, to SECTOR 0 if that is even, "
            + "else to 1");
        Disk x = new Disk(20);
        Checks.due("at first", x.told(3), 0);
        x.lay(1, 10);
        Checks.due("the first", x.sync(), 1);
        Checks.sentence("1 to 3 are 0; CONTENT 0 to 3 the GENERATION, its highest byte first, 4 NEXT, 5 how many ROWS, "
            + "6 to 23 are 0");
        Checks.dueBytes("head 1", x, 1, Disk.head(1, 4, 1));
        Checks.dueBytes("head 0 not yet", x, 0, ZEROS);
        x.lay(2, 50);
        x.open(5);
        x.add(7, 1);
        Checks.due("the second", x.sync(), 2);
        Checks.dueBytes("head 0", x, 0, Disk.head(2, 6, 2));
        Checks.dueBytes("head 1 as it was", x, 1, Disk.head(1, 4, 1));
        Checks.due("the open row is still open", x.told(7), 1);
        x.end();
        Checks.due("the third", x.sync(), 3);
        Checks.dueBytes("head 1 again", x, 1, Disk.head(3, 8, 3));
        Checks.due("told", x.told(3), 3);
        x = new Disk(8);
        x.lay(1);
        x.lay(1, 10, 50, 90, 130);
        x.sync();
        Checks.dueBytes("NEXT is n", x, 1, Disk.head(1, 8, 2));
        x = new Disk(8);
        x.put(1, Disk.head(7, 2, 60));
        x.restart();
        x.sync();
        Checks.dueBytes("60 rows", x, 0, Disk.head(8, 2, 60));
    }

    private static void generationsThatCarryOrWrap() {
        Checks.sentence("CONTENT 0 to 3 the GENERATION, its highest byte first");
        int[] generations = {0, 1, 254, 255, 256, 65535, 65536, 0xFFFFFF, MOST - 1, MOST, LEAST, LEAST + 1, -3, -2, -1};
        for (int was : generations) {
            Disk x = new Disk(8);
            x.put(was & 1, Disk.head(was, 2, 0));
            x.cut(0, 1);
            x.start();
            // Ints wrap: behind the greatest comes the least, behind -1 comes 0.
            int due = was == MOST ? LEAST : was + 1;
            Checks.due("START reads " + was, x.told(3), was);
            Checks.due("SYNC behind " + was, x.sync(), due);
            Checks.due("told(3) behind " + was, x.told(3), due);
            int sector = due % 2 == 0 ? 0 : 1;
            Checks.dueBytes("the head behind " + was, x, sector, Disk.head(due, 2, 0));
            Checks.dueBytes("the other one", x, 1 - sector, Disk.head(was, 2, 0));
        }
        Disk x = new Disk(8);
        for (int k = 0; k < 256; k++) {
            x.sync();
        }
        Checks.dueBytes("256 times", x, 0, Disk.head(256, 2, 0));
        Checks.dueBytes("255 times", x, 1, Disk.head(255, 2, 0));
    }

    private static void syncKeepsAll() {
        Checks.sentence("all is KEPT then");
        Disk x = new Disk(12);
        x.lay(1, 10);
        x.sync();
        x.lay(1, 50);
        x.cut(0, 1);
        Checks.due("what was kept stays", x.whole(2), 2);
        Checks.due("what was kept stays", x.whole(3), 3);
        Checks.due("the first that is not is torn", x.whole(4), 0);
        Checks.due("rows", x.start(), 1);
        Checks.due("NEXT", x.told(1), 4);
        for (int keep = 0; keep <= 1; keep++) {
            x = new Disk(20);
            x.lay(1, 10, 50, 90, 130);
            x.sync();
            x.lay(2);
            x.cut(keep, 1);
            int[] sorts = {0, 1, 2, 2, 2, 2, 3, keep == 0 ? 0 : 3, 0};
            for (int s = 1; s < sorts.length; s++) {
                Checks.due("keep " + keep + ", fewer than ahead of the sync: whole(" + s + ")", x.whole(s), sorts[s]);
            }
        }
    }

    // ---- CUT

    /** Sectors 2 to 5 have other bytes ahead and are lost; then a block, a block, a row and P come there. */
    private static Story overOldBytes() {
        return new Story(10, x -> {
            for (int s = 2; s < 6; s++) {
                for (int i = 0; i < 32; i++) {
                    x.poke(s, i, 100 + s);
                }
            }
            x.lose(2);
            x.lose(4);
            x.lay(1, 10, 50);
            x.protect(0, 1);
        });
    }

    private static void firstOnesStay() {
        int[] torn = new int[32];
        for (int tear : new int[] {1, 2, 4, 16, 28, 30, 31}) {
            for (int keep = 0; keep < 4; keep++) {
                int kept = keep;
                Story written = overOldBytes();
                Disk x = written.then(y -> y.cut(kept, tear)).again();
                for (int s = 2; s < 6; s++) {
                    int[] was = written.again().bytes(s);
                    for (int i = 0; i < 32; i++) {
                        torn[i] = s - 2 < keep || s - 2 == keep && i < tear ? was[i] : 100 + s;
                    }
                    Checks.sentence(s - 2 < keep ? "the first ones stay" : s - 2 == keep
                        ? "the one behind them is TORN: some of its first bytes stay, the others are as they were ahead"
                        : "all others are as they were ahead (LOST, too)");
                    Checks.dueBytes("keep " + keep + ", tear " + tear, x, s, torn);
                    int lost = s - 2 > keep && s % 2 == 0 ? 0 : 1;
                    Checks.due("keep " + keep + ", tear " + tear + ": lose(" + s + ")", x.lose(s), lost);
                }
            }
        }
    }

    private static void tornIsNotLost() {
        Checks.sentence("(it is not LOST)");
        Disk x = overOldBytes().then(y -> {
            y.lose(2);
            y.cut(0, 5);
        }).again();
        Checks.due("lost ahead and behind its write", x.lose(2), 1);
        x = overOldBytes().then(y -> {
            y.lose(3);
            y.cut(0, 5);
        }).again();
        Checks.sentence("all others are as they were ahead (LOST, too)");
        Checks.due("lost behind its write alone", x.lose(3), 1);
        Checks.due("lost ahead", x.lose(4), 0);
        Checks.due("never lost", x.lose(5), 1);
    }

    private static void changesThatAreNoWrites() {
        Checks.sentence("all others are as they were ahead");
        Disk x = overOldBytes().then(y -> {
            y.poke(5, 9, 255);
            y.cut(2, 3);
        }).again();
        Checks.due("poked behind its write", x.octet(5, 9), 105);
        Checks.sentence("the first ones stay");
        x = overOldBytes().then(y -> {
            y.poke(2, 9, 255);
            y.lose(3);
            y.poke(8, 9, 255);
            y.lose(9);
            y.cut(2, 3);
        }).again();
        Checks.due("one that stays, poked", x.octet(2, 9), 15 ^ 255);
        Checks.due("one that stays, lost", x.lose(3), 0);
        Checks.due("one that was not written, poked", x.octet(8, 9), 255);
        Checks.due("one that was not written, lost", x.lose(9), 0);
    }

    private static void headIsTorn() {
        Checks.sentence("If all stay, SYNC was begun: the HEAD that it writes is TORN.");
        for (int tear : new int[] {1, 8, 9, 28, 30, 31}) {
            Story two = new Story(12, x -> {
                x.lay(1, 10);
                x.sync();
                x.sync();
                x.lay(2, 50);
                x.lose(1);
                x.cut(2, tear);
            });
            Disk x = two.again();
            int[] torn = Disk.head(3, 6, 2);
            System.arraycopy(Disk.head(1, 4, 1), tear, torn, tear, 32 - tear);
            Checks.dueBytes("tear " + tear, x, 1, torn);
            Checks.dueBytes("the other head", x, 0, Disk.head(2, 4, 1));
            Checks.due("what was written stays", x.whole(5), 3);
            Checks.due("the torn one is not lost", x.told(8), 0);
            // With but one byte of it, the old head stands as it was.
            Checks.due("tear " + tear + ": whole", x.whole(1), tear < 8 ? 1 : 0);
            Checks.due("tear " + tear + ": rows", x.start(), 2);
            Checks.due("tear " + tear + ": the generation", x.told(3), 2);
        }
        Disk x = new Disk(8);
        Checks.due("nothing was written", x.cut(0, 31), 1);
        int[] torn = Disk.head(1, 2, 0);
        torn[31] = 0;
        Checks.dueBytes("the first head", x, 1, torn);
        x.start();
        x.sync();
        x.cut(0, 31);
        torn = Disk.head(2, 2, 0);
        torn[31] = 0;
        Checks.dueBytes("the second head", x, 0, torn);
        Checks.dueBytes("the first one is there", x, 1, Disk.head(1, 2, 0));
    }

    private static void openIsGone() {
        Checks.sentence("What was OPEN is gone; it is OFF.");
        Disk x = new Disk(12);
        x.lay(1, 10);
        x.open(3);
        x.addBytes(9, 30);
        x.cut(2, 1);
        Checks.due("OFF", x.told(0), 0);
        Checks.due("none is open", x.told(7), NONE);
        Checks.due("rows", x.start(), 1);
        Checks.due("ON", x.told(0), 1);
        Checks.due("none is open", x.told(7), NONE);
        Checks.due("add", x.add(1, 1), NO);
        Checks.due("end", x.end(), NO);
        Checks.due("the number is free", x.open(4), 1);
        Checks.due("no bytes", x.told(7), 0);
    }

    // ---- START

    /** What is told of GENERATION, NEXT and ROWS at a start with these bytes in sectors 0 and 1. */
    private static void dueOfHeads(String what, int n, int[] zero, int[] one, int generation, int next, int rows) {
        Disk x = new Disk(n);
        x.cut(0, 1);
        x.forge(0, zero);
        x.forge(1, one);
        Checks.due(what + ": start", x.start(), rows);
        Checks.due(what + ": NEXT", x.told(1), next);
        Checks.due(what + ": ROWS", x.told(2), rows);
        Checks.due(what + ": GENERATION", x.told(3), generation);
    }

    private static void headsThatCount() {
        Checks.sentence("of the SECTORS 0, 1 that are WHOLE, of SORT 1");
        dueOfHeads("head 0", 20, Disk.head(4, 5, 3), ZEROS, 4, 5, 3);
        dueOfHeads("head 1", 20, ZEROS, Disk.head(5, 6, 2), 5, 6, 2);
        for (int sort : new int[] {0, 2, 3, 4, 5}) {
            int[] other = Disk.head(9, 9, 9);
            other = Disk.sector(sort, 0, 0, 0, java.util.Arrays.copyOfRange(other, 4, 28));
            dueOfHeads("sort " + sort, 20, other, ZEROS, 0, 2, 0);
            dueOfHeads("sort " + sort, 20, other, Disk.head(5, 6, 2), 5, 6, 2);
        }
        int[] hurt = Disk.head(9, 9, 9);
        hurt[31] ^= 1;
        dueOfHeads("a sum that does not fit", 20, hurt, Disk.head(5, 6, 2), 5, 6, 2);
        Disk x = new Disk(20);
        x.put(0, Disk.head(9, 9, 9));
        x.put(1, Disk.head(5, 6, 2));
        x.lose(0);
        x.restart();
        Checks.due("a lost one", x.told(3), 5);
        x = new Disk(20);
        x.put(3, Disk.head(9, 9, 9));
        x.put(2, Disk.head(8, 9, 9));
        x.restart();
        Checks.due("heads elsewhere", x.told(3), 0);
        Checks.due("heads elsewhere", x.told(1), 2);
    }

    private static void headsInBounds() {
        Checks.sentence("with a NEXT of 2 to n");
        for (int n : new int[] {8, 20, 60}) {
            dueOfHeads("NEXT 2", n, Disk.head(4, 2, 3), ZEROS, 4, 2, 3);
            dueOfHeads("NEXT n", n, Disk.head(4, n, 3), ZEROS, 4, n, 3);
            for (int next : new int[] {0, 1, n + 1, 128, 255}) {
                dueOfHeads("NEXT " + next, n, Disk.head(4, next, 3), ZEROS, 0, 2, 0);
                dueOfHeads("NEXT " + next + " in 0", n, Disk.head(4, next, 3), Disk.head(1, 7, 6), 1, 7, 6);
                dueOfHeads("NEXT " + next + " in 1", n, Disk.head(2, 7, 6), Disk.head(3, next, 3), 2, 7, 6);
            }
        }
        Checks.sentence("and 60 ROWS at most");
        dueOfHeads("0 rows", 20, Disk.head(4, 5, 0), ZEROS, 4, 5, 0);
        dueOfHeads("60 rows", 20, Disk.head(4, 5, 60), ZEROS, 4, 5, 60);
        for (int rows : new int[] {61, 128, 255}) {
            dueOfHeads(rows + " rows", 20, Disk.head(4, 5, rows), ZEROS, 0, 2, 0);
            dueOfHeads(rows + " rows in 0", 20, Disk.head(4, 5, rows), Disk.head(1, 7, 6), 1, 7, 6);
            dueOfHeads(rows + " rows in 1", 20, Disk.head(2, 7, 6), Disk.head(3, 5, rows), 2, 7, 6);
        }
    }

    private static void greaterGeneration() {
        Checks.sentence("the one with the greater GENERATION (an int; of like ones SECTOR 0)");
        int[][] greater = {{5, 4}, {1, 0}, {256, 255}, {0x10000, 0xFFFF}, {0, -1}, {1, LEAST}, {MOST, LEAST}, {-1, -2},
            {LEAST + 1, LEAST}, {MOST, -1}};
        for (int[] pair : greater) {
            String what = pair[0] + " and " + pair[1];
            dueOfHeads(what, 20, Disk.head(pair[0], 5, 3), Disk.head(pair[1], 6, 2), pair[0], 5, 3);
            dueOfHeads(what + " in 1 and 0", 20, Disk.head(pair[1], 5, 3), Disk.head(pair[0], 6, 2), pair[0], 6, 2);
        }
        for (int like : new int[] {0, 4, -1, MOST, LEAST}) {
            dueOfHeads("twice " + like, 20, Disk.head(like, 5, 3), Disk.head(like, 6, 2), like, 5, 3);
        }
        Checks.sentence("none: 0, 2, 0");
        dueOfHeads("none", 20, ZEROS, ZEROS, 0, 2, 0);
        Disk x = new Disk(20);
        x.sync();
        x.sync();
        x.lay(1);
        x.cut(0, 1);
        x.lose(0);
        x.lose(1);
        Checks.due("both lost: rows", x.start(), 0);
        Checks.dueTold("both lost", x, 1, 2, 0, 0);
        Checks.due("the generation begins again", x.sync(), 1);
    }

    private static void logGrows() {
        Checks.sentence("Then, as long as SECTOR NEXT is there, WHOLE and of SORT 2 to 4, NEXT is one more.");
        for (int sort : new int[] {0, 1, 2, 3, 4, 5, 255}) {
            Disk x = new Disk(12);
            x.put(2, Disk.sector(2, 0, 0, 0, 1));
            x.put(3, Disk.sector(sort, 0, 77, 0, 1));
            x.put(4, Disk.sector(4, 0, 77, 0, 1));
            x.put(6, Disk.sector(2, 0, 0, 0, 1));
            x.restart();
            Checks.due("sort " + sort, x.told(1), sort >= 2 && sort <= 4 ? 5 : 3);
        }
        Disk x = new Disk(12);
        x.put(2, Disk.sector(2, 0, 0, 0, 1));
        x.put(3, Disk.sector(2, 0, 0, 0, 2));
        x.put(4, Disk.sector(2, 0, 0, 0, 3));
        x.lose(3);
        x.restart();
        Checks.due("a lost one", x.told(1), 3);
        x = new Disk(12);
        x.put(1, Disk.head(1, 4, 0));
        x.put(4, Disk.sector(2, 0, 0, 0, 2));
        x.restart();
        Checks.due("from what the head tells, whatever is ahead", x.told(1), 5);
        x = new Disk(12);
        x.put(1, Disk.head(1, 7, 0));
        x.restart();
        Checks.due("never less than the head tells", x.told(1), 7);
        for (int n : new int[] {8, 60}) {
            x = new Disk(n);
            x.put(1, Disk.head(1, n - 2, 0));
            x.put(n - 2, Disk.sector(4, 0, 0, 0));
            x.put(n - 1, Disk.sector(2, 0, 0, 0));
            x.restart();
            Checks.due("up to the last of " + n, x.told(1), n);
            Checks.due("no room behind it", x.open(0), Disk.FULL);
        }
    }

    private static void rowsAtStart() {
        Checks.sentence("ROWS are as many as that tells, or, if more, 1 more than the greatest number of a ROW that is "
            + "not AWAY.");
        dueRows("number 0, none told", 0, 1, 3, Disk.sector(3, 0, 0, 0));
        dueRows("number 2, 3 told", 3, 3, 3, Disk.sector(3, 0, 2, 0));
        dueRows("number 3, 3 told", 3, 4, 3, Disk.sector(3, 0, 3, 0));
        dueRows("number 4, 3 told", 3, 5, 3, Disk.sector(3, 0, 4, 0));
        dueRows("number 59", 0, 60, 3, Disk.sector(3, 0, 59, 0));
        dueRows("number 60", 0, 0, 3, Disk.sector(3, 0, 60, 0));
        dueRows("number 255", 7, 7, 3, Disk.sector(3, 0, 255, 0));
        dueRows("number 59, 60 told", 60, 60, 3, Disk.sector(3, 0, 59, 0));
        dueRows("96 bytes", 0, 6, 3, Disk.sector(3, 0, 5, 96));
        dueRows("97 bytes", 0, 0, 3, Disk.sector(3, 0, 5, 97));
        dueRows("a block", 0, 0, 3, Disk.sector(2, 0, 5, 0));
        dueRows("a symbol", 0, 0, 3, Disk.sector(4, 5, 5, 0));
        Disk x = new Disk(12);
        x.lay(1);
        x.lay(2);
        x.lay(3);
        x.sync();
        x.lose(4);
        Checks.due("as many as told, though the last is away", x.restart(), 3);
        Checks.due("it is listed", x.listed(0), 2);
        x.lose(0);
        x.lose(1);
        x.cut(0, 1);
        x.lose(1);
        x.lose(0);
        Checks.due("without heads only those that are there", x.start(), 2);
    }

    private static void dueRows(String what, int told, int rows, int sector, int[] bytes) {
        Disk x = new Disk(12);
        x.put(1, Disk.head(1, 5, told));
        x.put(sector, bytes);
        Checks.due(what, x.restart(), rows);
        Checks.due(what + ", told", x.told(2), rows);
    }

    private static void startAgain() {
        Checks.sentence("START (when it is OFF)");
        Disk x = new Disk(12);
        Checks.due("ON from the first", x.start(), NO);
        x.lay(1, 10);
        x.cut(2, 1);
        Checks.due("OFF", x.start(), 1);
        Checks.due("ON again", x.start(), NO);
        x.lay(1, 50);
        x.cut(1, 31);
        Checks.due("the block stays, the row is torn", x.start(), 1);
        Checks.due("NEXT", x.told(1), 5);
        Checks.due("the block is found", x.lay(1, 50), 1);
        Checks.due("found", x.told(6), 1);
        Checks.due("its block", x.row(1, 10), 4);
        Checks.due("the torn one is written over", x.row(1, 2), 5);
    }

    public static void main(String[] args) {
        notKept();
        asManyAsThereAre();
        syncWritesTheHead();
        generationsThatCarryOrWrap();
        syncKeepsAll();
        firstOnesStay();
        tornIsNotLost();
        changesThatAreNoWrites();
        headIsTorn();
        openIsGone();
        headsThatCount();
        headsInBounds();
        greaterGeneration();
        logGrows();
        rowsAtStart();
        startAgain();
        Checks.finish();
    }
}
