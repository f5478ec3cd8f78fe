/** The sentences under "What it is" and under "Terms" 1 and 2: sectors, their sum, the log, rows, blocks, symbols. */
public final class TermsTest {
    private static final int NONE = Disk.NONE, BAD = Disk.BAD, MISSING = Disk.MISSING, THROWN = Disk.THROWN;

    // ---- what it is

    private static void sectorsAtFirst() {
        Checks.sentence("SECTORS 0 .. n - 1 (n told once, 8 to 60) have 32 BYTES, 0 at first");
        for (int n : new int[] {8, 60}) {
            Story fresh = new Story(n, x -> { });
            for (int k = 0; k < n * 32; k++) {
                int sector = k / 32;
                int i = k % 32;
                Checks.due("octet(" + sector + ", " + i + ")", fresh.ask(x -> x.octet(sector, i)), 0);
            }
            Checks.due("sector -1", fresh.ask(x -> x.octet(-1, 0)), BAD);
            Checks.due("sector n", fresh.ask(x -> x.octet(n, 0)), BAD);
            Checks.due("byte -1", fresh.ask(x -> x.octet(0, -1)), BAD);
            Checks.due("byte 32", fresh.ask(x -> x.octet(n - 1, 32)), BAD);
        }
        Disk x = new Disk(8);
        x.poke(3, 31, 1);
        x.poke(5, 0, 2);
        Checks.due("the byte behind 3, 31", x.octet(4, 0), 0);
        Checks.due("the byte ahead of 5, 0", x.octet(4, 31), 0);
    }

    private static void lastCall() {
        Checks.sentence("An object is used for at most 512 calls after it has been made");
        Disk x = new Disk(8);
        for (int k = 1; k <= 511; k++) {
            x.sync();
        }
        Checks.due("call 512", x.sync(), 512);
        x = new Disk(60);
        x.lay(1, 10, 50, 90, 130);
        while (x.callsLeft() > 1) {
            x.at(0, 95);
        }
        Checks.due("call 512", x.at(0, 95), 153);
    }

    // ---- 1 sectors

    private static void sumOfThoseAhead() {
        Checks.sentence("28 to 31 the SUM of those ahead, its highest byte first");
        Disk x = new Disk(12);
        x.lay(7);
        dueSum("a row without bytes", x, 2, 15, 123, 121, 119);
        Checks.sentence("s becomes s ^ it, turned left by 7, times 0x1B873593 (ints that wrap)");
        x.open(0);
        for (int k = 0; k < 3; k++) {
            x.add(-1L, 8);
        }
        x.end();
        dueSum("24 bytes of 255", x, 3, 177, 145, 126, 80);
        x.open(0);
        for (int k = 0; k < 23; k++) {
            x.add(0, 1);
        }
        x.add(1, 1);
        x.end();
        dueSum("a 1 behind 23 bytes of 0", x, 5, 211, 147, 247, 150);
        x = new Disk(8);
        x.sync();
        dueSum("the first head", x, 1, 230, 136, 218, 213);
    }

    private static void dueSum(String what, Disk x, int sector, int... sum) {
        for (int k = 0; k < 4; k++) {
            Checks.due(what + ", byte " + k + " of the sum", x.octet(sector, 28 + k), sum[k]);
        }
        Checks.due(what + ", whole", x.whole(sector), x.octet(sector, 0));
    }

    private static void wholeSectors() {
        Checks.sentence("A SECTOR is WHOLE, if it is not LOST, its SORT is 1 to 4 and its SUM fits.");
        for (int mask : new int[] {1, 128}) {
            Disk x = new Disk(8);
            x.lay(1, 10);
            for (int i = 0; i < 32; i++) {
                x.poke(2, i, mask);
                Checks.due("byte " + i + " ^ " + mask, x.whole(2), 0);
                x.poke(2, i, mask);
            }
            Checks.due("as it was", x.whole(2), 2);
        }
        int[] sorts = {0, 1, 2, 3, 4, 5, 6, 127, 128, 129, 130, 255};
        for (int sort : sorts) {
            Disk x = new Disk(8);
            x.put(7, Disk.sector(sort, 4, 5, 6, 7));
            Checks.due("sort " + sort, x.whole(7), sort >= 1 && sort <= 4 ? sort : 0);
            x.lose(7);
            Checks.due("lost, sort " + sort, x.whole(7), 0);
        }
        Checks.due("all 0s: the sum fits, the sort does not", new Disk(8).whole(3), 0);
        Disk x = new Disk(8);
        x.put(3, Disk.sector(2, 0, 0, 0));
        x.lose(3);
        x.poke(3, 9, 4);
        x.poke(3, 9, 4);
        Checks.due("lost, whatever is poked", x.whole(3), 0);
    }

    private static void bordersOfTheLog() {
        Checks.sentence("HEADS stand in SECTORS 0 and 1. THE LOG is SECTORS 2 to NEXT - 1");
        Disk x = new Disk(20);
        x.put(0, Disk.sector(2, 0, 0, 0, 77));
        x.put(1, Disk.sector(2, 0, 0, 0, 77));
        x.put(2, Disk.sector(2, 0, 0, 0, 77));
        Checks.due("row", rowOf(x, 77), 0);
        Checks.due("a block in 0, in 1 and in NEXT is none", x.told(6), 0);
        Checks.due("it is written to NEXT", x.row(0, 10), 2);
        Checks.due("a block in the first sector of the log", rowOf(x, 77), 1);
        Checks.due("is found", x.row(1, 10), 2);
        x.lay(3);
        x.open(0);
        x.add(88, 1);
        x.end();
        x.put(8, Disk.sector(2, 0, 0, 0, 99));
        Checks.due("NEXT", x.told(1), 8);
        x.restart();
        Checks.due("NEXT", x.told(1), 9);
        rowOf(x, 99);
        Checks.due("a block in the last sector of the log", x.row(4, 10), 8);
        rowsAndSymbolsAtTheBorders();
    }

    private static int rowOf(Disk x, int value) {
        x.open(0);
        x.add(value, 1);
        return x.end();
    }

    private static void rowsAndSymbolsAtTheBorders() {
        for (int sector : new int[] {0, 1, 5}) {
            Disk x = new Disk(12);
            x.lay(1, 10);
            x.protect(0, 1);
            x.put(sector, Disk.sector(3, 7, 0, 0));
            Checks.due("a row in " + sector, x.row(0, 2), 3);
            x = new Disk(12);
            x.lay(1, 10);
            x.protect(0, 1);
            x.put(sector, Disk.sector(4, 0, 1, 0));
            Checks.due("a Q in " + sector, x.row(0, 4), NONE);
            x.put(6, Disk.sector(4, 0, 0, 0));
            Checks.due("a P behind NEXT", x.row(0, 3), 4);
        }
        Disk x = new Disk(12);
        x.put(2, Disk.sector(3, 7, 0, 0));
        x.put(3, Disk.sector(4, 0, 0, 0));
        x.put(4, Disk.sector(4, 0, 1, 0));
        x.restart();
        Checks.due("a row in 2", x.row(0, 2), 2);
        Checks.due("a P in 3", x.row(0, 3), 3);
        Checks.due("a Q in NEXT - 1", x.row(0, 4), 4);
        x = new Disk(12);
        x.put(2, Disk.sector(4, 0, 0, 0));
        x.put(3, Disk.sector(3, 7, 0, 0));
        x.restart();
        Checks.due("a P in 2", x.row(0, 3), 2);
        Checks.due("a row in NEXT - 1", x.row(0, 2), 3);
    }

    private static void writesComeToNext() {
        Checks.sentence("all else that is written comes to SECTOR NEXT, which is one more then (2 at first)");
        Disk x = new Disk(60);
        Checks.due("at first", x.told(1), 2);
        x.lay(1);
        Checks.due("a row", x.told(1), 3);
        x.lay(1, 10);
        Checks.due("a block and a row", x.told(1), 5);
        x.lay(1, 10);
        Checks.due("a row whose block is found", x.told(1), 6);
        x.lay(1, 20, 30, 40, 50);
        Checks.due("four blocks and a row", x.told(1), 11);
        x.protect(0, 1);
        Checks.due("P", x.told(1), 12);
        x.protect(0, 2);
        Checks.due("P and Q", x.told(1), 14);
        x.sync();
        Checks.due("a head", x.told(1), 14);
        int[] sorts = {0, 1, 3, 2, 3, 3, 2, 2, 2, 2, 3, 4, 4, 4, 0};
        for (int s = 0; s < sorts.length; s++) {
            Checks.due("whole(" + s + ")", x.whole(s), sorts[s]);
        }
    }

    private static void lastSectorOfAll() {
        Checks.sentence("SECTORS 0 .. n - 1");
        Disk x = new Disk(8);
        x.lay(1);
        x.lay(2, 10, 50, 90, 130);
        Checks.due("NEXT is n", x.told(1), 8);
        Checks.due("the row in the last sector", x.row(1, 2), 7);
        Checks.due("its last byte", x.at(1, 95), 153);
        x = new Disk(60);
        for (int k = 0; k < 54; k++) {
            x.lay(k % 10);
        }
        Checks.due("4 sectors left", x.told(1), 56);
        Checks.due("P and Q", x.protect(53, 2), 57);
        Checks.due("P and Q", x.protect(0, 2), 59);
        Checks.due("the Q in the last sector", x.row(0, 4), 59);
        Checks.due("row 53", x.row(53, 2), 55);
    }

    private static void writtenIsLostNoMore() {
        Checks.sentence("A SECTOR that is written is LOST no more.");
        Disk x = new Disk(8);
        for (int s = 0; s < 8; s++) {
            x.lose(s);
        }
        x.lay(1, 10);
        Checks.due("two were written", x.told(8), 6);
        Checks.due("the block", x.whole(2), 2);
        Checks.due("the row", x.whole(3), 3);
        x.protect(0, 1);
        Checks.due("P", x.whole(4), 4);
        x.sync();
        Checks.due("head 1", x.whole(1), 1);
        x.sync();
        Checks.due("head 0", x.whole(0), 1);
        Checks.due("the others are lost", x.told(8), 3);
        x.lose(2);
        x.restart();
        Checks.due("a repaired one", x.whole(2), 2);
        Checks.due("the others are still lost", x.told(8), 3);
    }

    // ---- 2 rows

    private static void openBytesAreNotOnTheDisk() {
        Checks.sentence("One may be OPEN: its bytes come, and are not on the disk yet.");
        Story open = new Story(8, x -> {
            x.open(7);
            x.addBytes(1, 96);
        });
        for (int k = 0; k < 8 * 32; k++) {
            int sector = k / 32;
            int i = k % 32;
            Checks.due("octet(" + sector + ", " + i + ")", open.ask(x -> x.octet(sector, i)), 0);
        }
        Checks.dueTold("while it is open", open.again(), 1, 2, 0, 0, 0, 0, 0, 96, 0, 8);
        Checks.due("its byte", open.ask(x -> x.at(0, 0)), BAD);
    }

    private static void blocksOfLengths() {
        Checks.sentence("its bytes, 24 by 24 (0s behind the last ones), are its BLOCKS in order, 4 at most");
        int[] lengths = {0, 1, 8, 23, 24, 25, 47, 48, 49, 71, 72, 73, 95, 96};
        for (int length : lengths) {
            int blocks = (length + 23) / 24;
            Story ended = new Story(8, x -> {
                x.open(3);
                x.addBytes(1, length);
                x.end();
            });
            for (int k = 0; k < blocks; k++) {
                int[] content = Disk.counting(1 + 24 * k);
                for (int i = 0; i < 24; i++) {
                    content[i] = 24 * k + i < length ? content[i] : 0;
                }
                Checks.dueBytes(length + " bytes, block " + k, ended.again(), 2 + k, Disk.sector(2, 0, 0, 0, content));
            }
            Checks.due(length + " bytes: blocks", ended.ask(x -> x.row(0, 5)), blocks);
            Checks.due(length + " bytes: NEXT", ended.ask(x -> x.told(1)), 3 + blocks);
            for (int k = 0; k < 4; k++) {
                int what = 10 + k;
                Checks.due(length + " bytes: block " + k, ended.ask(x -> x.row(0, what)), k < blocks ? 2 + k : NONE);
            }
            Checks.due(length + " bytes: one behind", ended.ask(x -> x.at(0, length)), THROWN);
            Checks.due(length + " bytes: the last", ended.ask(x -> x.at(0, length - 1)), length > 0 ? length : THROWN);
        }
    }

    private static void nothingOfAnEarlierRow() {
        Checks.sentence("(0s behind the last ones)");
        Disk x = new Disk(20);
        x.lay(1, 200, 200, 100, 150);
        x.open(2);
        x.addBytes(5, 2);
        x.end();
        Checks.dueBytes("behind a longer row", x, 6, Disk.sector(2, 0, 0, 0, 5, 6));
        x.open(3);
        x.addBytes(40, 96);
        x.restart();
        x.open(4);
        x.addBytes(9, 25);
        x.end();
        Checks.dueBytes("behind one that is gone", x, 9, Disk.sector(2, 0, 0, 0, 33));
        Checks.due("its kind", x.row(2, 0), 4);
    }

    private static void foundBlocks() {
        Checks.sentence("the first WHOLE BLOCK of THE LOG with just this CONTENT is it (FOUND)");
        Disk x = new Disk(30);
        x.lay(1, 10);
        x.lose(2);
        x.lay(1, 10);
        Checks.due("a lost one is not it", x.row(1, 10), 4);
        x.poke(4, 27, 1);
        x.lay(1, 10);
        Checks.due("one whose sum does not fit is not it", x.row(2, 10), 6);
        Checks.due("none was found", x.told(6), 0);
        x.poke(4, 27, 1);
        x.lay(1, 10);
        Checks.due("of two the first", x.row(3, 10), 4);
        Checks.due("found", x.told(6), 1);
        Checks.due("only the row was written", x.told(1), 9);
        Checks.due("twice and thrice in one row", x.lay(1, 60, 60, 10, 60), 4);
        int[] places = {9, 9, 4, 9};
        for (int k = 0; k < 4; k++) {
            Checks.due("block " + k, x.row(4, 10 + k), places[k]);
        }
        Checks.due("found", x.told(6), 4);
        x.restart();
        Checks.due("found ever", x.told(6), 4);
        notJustThisContent();
        otherSortsAreNotIt();
    }

    private static void notJustThisContent() {
        Disk x = new Disk(30);
        int[] content = Disk.counting(10);
        x.lay(1, 10);
        for (int i : new int[] {0, 23}) {
            x.open(1);
            for (int k = 0; k < 24; k++) {
                x.add(k == i ? 200 : content[k], 1);
            }
            x.end();
        }
        Checks.due("another first byte", x.row(1, 10), 4);
        Checks.due("another last byte", x.row(2, 10), 6);
        x.open(1);
        x.add(0, 1);
        x.end();
        Checks.due("one 0", x.row(3, 10), 8);
        x.open(1);
        for (int k = 0; k < 3; k++) {
            x.add(0, 8);
        }
        x.end();
        Checks.due("24 0s have the same content", x.row(4, 10), 8);
        Checks.due("found", x.told(6), 1);
    }

    private static void otherSortsAreNotIt() {
        Disk x = new Disk(30);
        x.lay(1, 10);
        x.protect(0, 1);
        x.lose(2);
        Checks.due("the P has this content, but is no block", x.lay(1, 10), 1);
        Checks.due("its block", x.row(1, 10), 5);
        x.lay(1);
        x.open(1);
        x.add(5, 1);
        x.end();
        // The row in 6 has the sector 5 as its content; the block is written behind it.
        Checks.due("nor is a row", x.row(3, 10), 8);
        Checks.due("none was found", x.told(6), 0);
    }

    private static void rowSectors() {
        Checks.sentence("1 its KIND, 2 its number, 3 how many bytes; CONTENT 0 to 3 the SECTORS of its BLOCKS "
            + "(0 for none), 4 to 23 are 0");
        Disk x = new Disk(30);
        x.lay(9);
        Checks.dueBytes("no block", x, 2, Disk.sector(3, 9, 0, 0));
        x.lay(0, 10);
        Checks.dueBytes("1 block", x, 4, Disk.sector(3, 0, 1, 24, 3));
        x.lay(1, 50, 10);
        Checks.dueBytes("2 blocks", x, 6, Disk.sector(3, 1, 2, 48, 5, 3));
        x.lay(2, 90, 90, 90);
        Checks.dueBytes("3 blocks", x, 8, Disk.sector(3, 2, 3, 72, 7, 7, 7));
        x.lay(3, 130, 160, 190, 220);
        Checks.dueBytes("4 blocks", x, 13, Disk.sector(3, 3, 4, 96, 9, 10, 11, 12));
        x = new Disk(12);
        x.put(1, Disk.head(1, 3, 59));
        x.restart();
        x.lay(8, 70);
        Checks.dueBytes("the greatest number", x, 4, Disk.sector(3, 8, 59, 24, 3));
    }

    private static void lastRowSector() {
        Checks.sentence("A ROW's SECTOR is the last WHOLE one of THE LOG of SORT 3 with its number and 96 bytes at most "
            + "(a number is 59 at most); without one it is AWAY.");
        Story story = new Story(12, x -> {
            x.put(2, Disk.sector(3, 1, 59, 5));
            x.put(3, Disk.sector(3, 2, 59, 96));
            x.put(4, Disk.sector(3, 3, 59, 97));
            x.put(5, Disk.sector(3, 4, 59, 255));
            x.put(6, Disk.sector(3, 5, 60, 96));
            x.put(7, Disk.sector(2, 6, 59, 96));
            x.put(8, Disk.sector(3, 7, 58, 96));
            x.restart();
        });
        Disk x = story.again();
        Checks.due("rows", x.told(2), 60);
        Checks.due("the last one of 96 bytes at most", x.row(59, 2), 3);
        Checks.due("its kind", x.row(59, 0), 2);
        Checks.due("its bytes", x.row(59, 1), 96);
        Checks.due("its blocks", x.row(59, 5), 4);
        Checks.due("row 60", x.row(60, 2), BAD);
        Checks.due("row 58", x.row(58, 2), 8);
        Checks.due("row 57 is away", x.row(57, 2), NONE);
        x.lose(3);
        Checks.due("without the last", x.row(59, 2), 2);
        x.poke(2, 20, 1);
        Checks.due("without any it is away", x.row(59, 2), NONE);
        Checks.due("its bytes", x.at(59, 0), Disk.NO);
    }

    private static void missingBlocks() {
        Checks.sentence("A BLOCK of it is MISSING, if its SECTOR is no WHOLE one of SORT 2 in THE LOG.");
        int[][] tells = {{0, 1}, {1, 1}, {2, 0}, {3, 1}, {4, 1}, {5, 0}, {6, 1}, {7, 1}, {8, 1}, {59, 1}, {60, 1},
            {127, 1}, {128, 1}, {255, 1}};
        for (int[] tell : tells) {
            Disk x = new Disk(60);
            x.put(0, Disk.sector(2, 0, 0, 0, 9));
            x.put(2, Disk.sector(2, 0, 0, 0, 9));
            x.put(3, Disk.sector(3, 1, 0, 24, tell[0]));
            x.put(4, Disk.sector(4, 7, 0, 0, 9));
            x.put(5, Disk.sector(2, 0, 0, 0, 9));
            x.put(7, Disk.sector(2, 0, 0, 0, 9));
            x.restart();
            // NEXT is 6; the head that the restart tore stands in 1.
            Checks.due("told in " + tell[0] + ": missing", x.row(0, 6), tell[1]);
            Checks.due("told in " + tell[0] + ": its byte", x.at(0, 0), tell[1] == 1 ? MISSING : 9);
            Checks.due("told in " + tell[0] + ": listed", x.listed(0), tell[1] == 1 ? 0 : NONE);
            Checks.due("told in " + tell[0] + ": protect", x.protect(0, 1), tell[1] == 1 ? Disk.NO : 6);
            Checks.due("told in " + tell[0], x.row(0, 10), tell[0]);
        }
        Disk x = new Disk(12);
        x.lay(1, 10, 50, 10, 90);
        x.lose(2);
        Checks.due("one sector, two blocks", x.row(0, 6), 2);
        x.poke(4, 0, 1);
        Checks.due("one more of another sort", x.row(0, 6), 3);
        x.poke(3, 31, 1);
        Checks.due("all", x.row(0, 6), 4);
    }

    // ---- symbols

    private static void symbolSectors() {
        Checks.sentence("SYMBOLS of a ROW are written likewise: 1 its number, 2 0 for P, 1 for Q, 3 0; byte i of the "
            + "CONTENT is the sum of the bytes i of its BLOCKS' CONTENTS");
        int[] starts = {10, 100, 190, 230};
        for (int blocks = 0; blocks <= 4; blocks++) {
            int[] p = new int[24];
            int[] q = new int[24];
            for (int k = 0; k < blocks; k++) {
                for (int i = 0; i < 24; i++) {
                    p[i] ^= starts[k] + i & 255;
                    q[i] ^= Model.scaled(starts[k] + i & 255, k);
                }
            }
            Disk x = new Disk(20);
            x.lay(1);
            x.lay(1, java.util.Arrays.copyOf(starts, blocks));
            int next = x.told(1);
            Checks.due(blocks + " blocks: the sector of Q", x.protect(1, 2), next + 1);
            Checks.dueBytes(blocks + " blocks: P", x, next, Disk.sector(4, 1, 0, 0, p));
            Checks.dueBytes(blocks + " blocks: Q", x, next + 1, Disk.sector(4, 1, 1, 0, q));
        }
        Disk x = new Disk(12);
        x.put(1, Disk.head(1, 2, 59));
        x.restart();
        x.lay(8, 70);
        x.protect(59, 2);
        Checks.dueBytes("P of row 59", x, 4, Disk.sector(4, 59, 0, 0, Disk.counting(70)));
        Checks.dueBytes("Q of row 59", x, 5, Disk.sector(4, 59, 1, 0, Disk.counting(70)));
    }

    private static void twoTimesAByte() {
        Checks.sentence("TWO times a byte is it << 1, and that ^ 0x11D, if it is above 255.");
        int[][] pairs = {{0, 0}, {1, 2}, {64, 128}, {127, 254}, {128, 0x1D}, {129, 0x1F}, {142, 1}, {255, 0xE3}};
        for (int[] pair : pairs) {
            dueInQ("in block 1", 1, pair[0], pair[1]);
        }
        Checks.sentence("for Q each of them times TWO as often as BLOCKS stand ahead of it");
        dueInQ("in block 0", 0, 255, 255);
        int[][] fours = {{1, 4}, {63, 252}, {64, 0x1D}, {128, 0x3A}, {255, 0xDB}};
        for (int[] four : fours) {
            dueInQ("in block 2", 2, four[0], four[1]);
        }
        int[][] eights = {{1, 8}, {31, 248}, {32, 0x1D}, {64, 0x3A}, {128, 0x74}, {255, 0xAB}};
        for (int[] eight : eights) {
            dueInQ("in block 3", 3, eight[0], eight[1]);
        }
    }

    /** Blocks of 0s but for the first and the last byte of the last one. */
    private static void dueInQ(String what, int block, int value, int want) {
        Disk x = new Disk(12);
        x.open(1);
        for (int k = 0; k < block * 3; k++) {
            x.add(0, 8);
        }
        x.add(value, 8);
        x.add(0, 8);
        x.add((long) value << 56, 8);
        x.end();
        int q = x.protect(0, 2);
        Checks.due(what + ", " + value + ": P", x.octet(q - 1, 4), value);
        Checks.due(what + ", " + value + ": the first byte of Q", x.octet(q, 4), want);
        Checks.due(what + ", " + value + ": the second byte of Q", x.octet(q, 5), 0);
        Checks.due(what + ", " + value + ": the last byte of Q", x.octet(q, 27), want);
    }

    private static void lastSymbols() {
        Checks.sentence("Its P, its Q are the last WHOLE ones of THE LOG of SORT 4 with its number (2 being 0, 1).");
        Disk x = new Disk(30);
        x.lay(1);
        x.lay(2);
        x.protect(0, 2);
        x.protect(0, 2);
        x.protect(1, 2);
        Checks.due("the last P", x.row(0, 3), 6);
        Checks.due("the last Q", x.row(0, 4), 7);
        Checks.due("the other row's P", x.row(1, 3), 8);
        Checks.due("the other row's Q", x.row(1, 4), 9);
        x.lose(6);
        x.poke(7, 4, 1);
        Checks.due("the last whole P", x.row(0, 3), 4);
        Checks.due("the last whole Q", x.row(0, 4), 5);
        x.lose(4);
        Checks.due("no P", x.row(0, 3), NONE);
        Checks.due("still a Q", x.row(0, 4), 5);
        x = new Disk(30);
        x.put(2, Disk.sector(3, 1, 0, 0));
        x.put(3, Disk.sector(4, 0, 0, 0));
        x.put(4, Disk.sector(4, 0, 1, 0));
        x.put(5, Disk.sector(4, 0, 2, 0));
        x.put(6, Disk.sector(4, 0, 255, 0));
        x.put(7, Disk.sector(3, 0, 1, 0));
        x.put(8, Disk.sector(2, 0, 1, 0));
        x.restart();
        Checks.due("2 is neither", x.row(0, 3), 3);
        Checks.due("2 is neither", x.row(0, 4), 4);
    }

    public static void main(String[] args) {
        sectorsAtFirst();
        lastCall();
        sumOfThoseAhead();
        wholeSectors();
        bordersOfTheLog();
        writesComeToNext();
        lastSectorOfAll();
        writtenIsLostNoMore();
        openBytesAreNotOnTheDisk();
        blocksOfLengths();
        nothingOfAnEarlierRow();
        foundBlocks();
        rowSectors();
        lastRowSector();
        missingBlocks();
        symbolSectors();
        twoTimesAByte();
        lastSymbols();
        Checks.finish();
    }
}
