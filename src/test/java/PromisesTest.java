/** Each promise of the document: ordinary inputs, its edges, wrong inputs. */
public final class PromisesTest {
    private static final int NONE = -1, BAD = -2, NO = -3, FULL = -4, MISSING = -5, THROWN = 9999;
    private static final int LEAST = Integer.MIN_VALUE, MOST = Integer.MAX_VALUE;

    private static int wrong = 0;
    private static String promise = "";

    private static void due(String what, int got, int want) {
        if (got != want) {
            wrong++;
            System.out.println(promise + ": " + what + " answered " + got + ", due is " + want);
        }
    }

    private static int at(PackDisk x, int row, int i) {
        try {
            return x.at(row, i);
        } catch (ArrayIndexOutOfBoundsException e) {
            return e.getClass() == ArrayIndexOutOfBoundsException.class ? THROWN : THROWN + 1;
        }
    }

    /** A row of full blocks; block k holds (starts[k] + its index) in each byte. */
    private static int lay(PackDisk x, int kind, int... starts) {
        x.open(kind);
        for (int start : starts) {
            for (int i = 0; i < 24; i++) {
                x.add(start + i, 1);
            }
        }
        return x.end();
    }

    private static int[] bytes(PackDisk x, int sector) {
        int[] all = new int[32];
        for (int i = 0; i < 32; i++) {
            all[i] = x.octet(sector, i);
        }
        return all;
    }

    private static void dueBytes(String what, PackDisk x, int sector, int[] want) {
        for (int i = 0; i < 32; i++) {
            due(what + ", octet(" + sector + ", " + i + ")", x.octet(sector, i), want[i]);
        }
    }

    /** A sector as the document tells it, its sum too. */
    private static int[] sector(int sort, int a, int b, int c, int... content) {
        int[] all = new int[32];
        all[0] = sort;
        all[1] = a;
        all[2] = b;
        all[3] = c;
        System.arraycopy(content, 0, all, 4, content.length);
        int s = 0;
        for (int i = 0; i < 28; i++) {
            s = Integer.rotateLeft(s ^ all[i], 7) * 0x1B873593;
        }
        for (int k = 0; k < 4; k++) {
            all[28 + k] = s >>> (24 - 8 * k) & 255;
        }
        return all;
    }

    private static void forge(PackDisk x, int sector, int[] want) {
        for (int i = 0; i < 32; i++) {
            x.poke(sector, i, x.octet(sector, i) ^ want[i]);
        }
    }

    private static void restart(PackDisk x) {
        x.cut(x.told(4), 1);
        x.start();
    }

    private static void newObject() {
        promise = "1 a new object";
        int[][] sizes = {{LEAST, 8}, {-1, 8}, {0, 8}, {7, 8}, {8, 8}, {9, 9}, {59, 59}, {60, 60}, {61, 60}, {MOST, 60}};
        for (int[] size : sizes) {
            PackDisk x = new PackDisk(size[0]);
            due("told(9) of " + size[0], x.told(9), size[1]);
            due("octet behind the last", x.octet(size[1], 0), BAD);
            due("the last octet", x.octet(size[1] - 1, 31), 0);
            due("ON", x.told(0), 1);
            due("start", x.start(), NO);
        }
        PackDisk x = new PackDisk(12);
        int[] first = {1, 2, 0, 0, 0, 0, 0, NONE, 0, 12};
        for (int what = 0; what < 10; what++) {
            due("told(" + what + ")", x.told(what), first[what]);
        }
        for (int s = 0; s < 12; s++) {
            due("whole(" + s + ")", x.whole(s), 0);
            dueBytes("at first", x, s, new int[32]);
        }
    }

    private static void openCall() {
        promise = "2 open";
        PackDisk x = new PackDisk(8);
        due("kind -1", x.open(-1), BAD);
        due("kind 10", x.open(10), BAD);
        due("least", x.open(LEAST), BAD);
        due("none is open", x.told(7), NONE);
        due("kind 9", x.open(9), 0);
        due("no bytes yet", x.told(7), 0);
        due("one is open", x.open(0), NO);
        due("BAD goes ahead of NO", x.open(10), BAD);
        due("no row yet", x.told(2), 0);
        x.end();
        due("5 left", x.told(1), 3);
        due("kind 0, 5 left", x.open(0), 1);
        x.end();
        due("4 left", x.open(0), FULL);
        due("none is open", x.told(7), NONE);
        x.cut(0, 1);
        due("OFF", x.open(0), NO);
        due("OFF, BAD", x.open(10), BAD);
        sixtyRows();
    }

    private static void sixtyRows() {
        PackDisk x = new PackDisk(60);
        forge(x, 2, sector(3, 0, 58, 0));
        restart(x);
        due("59 rows", x.told(2), 59);
        due("the last row", x.open(0), 59);
        due("its end", x.end(), 59);
        due("60 rows", x.open(0), FULL);
        due("row 59", x.row(59, 2), 3);
    }

    private static void addCall() {
        promise = "3 add";
        PackDisk x = new PackDisk(20);
        due("none is open", x.add(1, 1), NO);
        due("BAD goes ahead", x.add(1, 0), BAD);
        x.open(0);
        due("n 0", x.add(1, 0), BAD);
        due("n 9", x.add(1, 9), BAD);
        due("n least", x.add(1, LEAST), BAD);
        due("n most", x.add(1, MOST), BAD);
        due("n 1", x.add(0xFFFEL, 1), 1);
        due("n 3", x.add(-2L, 3), 4);
        due("n 8", x.add(0x8877665544332211L, 8), 12);
        due("told", x.told(7), 12);
        for (int k = 0; k < 10; k++) {
            due("8 more", x.add(k, 8), 20 + 8 * k);
        }
        due("5 more", x.add(0, 5), FULL);
        due("9 more", x.add(0, 9), BAD);
        due("none came", x.told(7), 92);
        due("4 more", x.add(-1L, 4), 96);
        due("one more", x.add(0, 1), FULL);
        x.end();
        int[] want = {0xFE, 0xFE, 0xFF, 0xFF, 0x11, 0x22, 0x33, 0x44, 0x55, 0x66, 0x77, 0x88};
        for (int i = 0; i < want.length; i++) {
            due("byte " + i, at(x, 0, i), want[i]);
        }
        due("byte 95", at(x, 0, 95), 255);
        due("behind the end", x.add(1, 1), NO);
        x.open(0);
        x.cut(0, 1);
        due("OFF", x.add(1, 1), NO);
        due("OFF, BAD", x.add(1, 9), BAD);
    }

    private static void endCall() {
        promise = "4 end";
        PackDisk x = new PackDisk(30);
        due("none is open", x.end(), NO);
        x.open(7);
        due("without bytes", x.end(), 0);
        dueBytes("a row without bytes", x, 2, sector(3, 7, 0, 0));
        due("twice", x.end(), NO);
        x.open(2);
        for (int k = 0; k < 25; k++) {
            x.add(200 + k, 1);
        }
        due("25 bytes", x.end(), 1);
        int[] content = new int[24];
        for (int i = 0; i < 24; i++) {
            content[i] = 200 + i;
        }
        dueBytes("block 0", x, 3, sector(2, 0, 0, 0, content));
        dueBytes("block 1", x, 4, sector(2, 0, 0, 0, 224));
        dueBytes("the row", x, 5, sector(3, 2, 1, 25, 3, 4));
        due("next", x.told(1), 6);
        due("rows", x.told(2), 2);
        due("not kept", x.told(4), 4);
        due("found", x.told(6), 0);
        equalBlocks(x);
        x.open(0);
        x.cut(0, 9);
        due("OFF", x.end(), NO);
    }

    private static void equalBlocks(PackDisk x) {
        x.open(3);
        x.add(224, 8);
        due("a block that is there, 0s behind", x.end(), 2);
        due("its block", x.row(2, 10), 4);
        due("found", x.told(6), 1);
        due("only the row was written", x.told(1), 7);
        due("twice the same in one row", lay(x, 4, 9, 9, 9), 3);
        dueBytes("the row", x, 8, sector(3, 4, 3, 72, 7, 7, 7));
        due("found", x.told(6), 3);
        x.lose(7);
        due("a lost one is not found", lay(x, 4, 9), 4);
        due("its block", x.row(4, 10), 9);
        x.poke(9, 4, 1);
        due("a hurt one is not found", lay(x, 4, 9), 5);
        due("its block", x.row(5, 10), 11);
        x.poke(9, 4, 1);
        due("the first one is it", lay(x, 4, 9), 6);
        due("its block", x.row(6, 10), 9);
        forge(x, 20, sector(2, 0, 0, 0, 77));
        x.open(0);
        x.add(77, 1);
        x.end();
        due("only in the log", x.row(7, 10), 14);
    }

    private static void protectCall() {
        promise = "5 protect";
        PackDisk x = new PackDisk(40);
        lay(x, 1, 10, 100, 190, 230);
        due("row -1", x.protect(-1, 1), BAD);
        due("row 1", x.protect(1, 1), BAD);
        due("n 0", x.protect(0, 0), BAD);
        due("n 3", x.protect(0, 3), BAD);
        due("P", x.protect(0, 1), 7);
        due("no Q", x.row(0, 4), NONE);
        due("P and Q", x.protect(0, 2), 9);
        due("its P", x.row(0, 3), 8);
        due("its Q", x.row(0, 4), 9);
        int[] p = new int[24];
        int[] q = new int[24];
        for (int i = 0; i < 24; i++) {
            int[] values = {10 + i, 100 + i, 190 + i, (230 + i) & 255};
            for (int k = 0; k < 4; k++) {
                p[i] ^= values[k];
                q[i] ^= Model.scaled(values[k], k);
            }
        }
        dueBytes("P", x, 7, sector(4, 0, 0, 0, p));
        dueBytes("P again", x, 8, sector(4, 0, 0, 0, p));
        dueBytes("Q", x, 9, sector(4, 0, 1, 0, q));
        x.open(0);
        x.end();
        due("a row without blocks", x.protect(1, 2), 12);
        dueBytes("its Q", x, 12, sector(4, 1, 1, 0));
        x.lose(4);
        due("a block is missing", x.protect(0, 1), NO);
        due("BAD goes ahead", x.protect(0, 3), BAD);
        x.lose(10);
        due("away", x.protect(1, 1), NO);
        x.cut(0, 1);
        due("OFF", x.protect(0, 1), NO);
        due("OFF, BAD", x.protect(2, 1), BAD);
        protectWithoutRoom();
    }

    private static void protectWithoutRoom() {
        PackDisk x = new PackDisk(9);
        x.open(0);
        x.end();
        due("open", x.open(0), 1);
        due("6 left, P and Q", x.protect(0, 2), FULL);
        due("6 left, P", x.protect(0, 1), 3);
        due("5 left, P", x.protect(0, 1), FULL);
        due("the open one ends", lay(x, 0), 1);
        due("4 left, P and Q", x.protect(1, 2), 6);
        due("2 left, P and Q", x.protect(1, 2), 8);
        due("none left", x.protect(1, 1), FULL);
        x.lose(4);
        due("NO goes ahead of FULL", x.protect(1, 1), NO);
        x = new PackDisk(8);
        lay(x, 0, 1, 2, 3, 4);
        due("1 left, P and Q", x.protect(0, 2), FULL);
        due("nothing changed", x.told(1), 7);
        due("1 left, P", x.protect(0, 1), 7);
        due("sync needs no room", x.sync(), 1);
        due("next is n", x.octet(1, 8), 8);
        restart(x);
        due("next is n at the start", x.told(1), 8);
    }

    private static void syncCall() {
        promise = "6 sync";
        PackDisk x = new PackDisk(20);
        lay(x, 1, 5);
        due("first", x.sync(), 1);
        dueBytes("head 1", x, 1, sector(1, 0, 0, 0, 0, 0, 0, 1, 4, 1));
        due("head 0", x.whole(0), 0);
        due("all is kept", x.told(4), 0);
        x.open(3);
        x.lose(0);
        due("second, a row is open", x.sync(), 2);
        dueBytes("head 0", x, 0, sector(1, 0, 0, 0, 0, 0, 0, 2, 4, 1));
        due("lost no more", x.told(8), 0);
        due("still open", x.told(7), 0);
        due("generation", x.told(3), 2);
        x.cut(0, 1);
        due("OFF", x.sync(), NO);
        due("nothing changed", x.told(3), 2);
        x = new PackDisk(20);
        forge(x, 1, sector(1, 0, 0, 0, 0x7F, 0xFF, 0xFF, 0xFF, 2, 0));
        restart(x);
        due("the greatest", x.told(3), MOST);
        due("it wraps", x.sync(), LEAST);
        dueBytes("head 0", x, 0, sector(1, 0, 0, 0, 0x80, 0, 0, 0, 2, 0));
        due("an odd one below 0", x.sync(), LEAST + 1);
        dueBytes("head 1", x, 1, sector(1, 0, 0, 0, 0x80, 0, 0, 1, 2, 0));
    }

    private static void cutCall() {
        promise = "7 cut";
        PackDisk x = new PackDisk(20);
        lay(x, 1, 5, 40);
        due("tear 0", x.cut(0, 0), BAD);
        due("tear 32", x.cut(0, 32), BAD);
        due("tear least", x.cut(0, LEAST), BAD);
        due("keep -1", x.cut(-1, 1), BAD);
        due("keep 4", x.cut(4, 1), BAD);
        due("still ON", x.told(0), 1);
        int[] block = bytes(x, 2);
        int[] torn = bytes(x, 3);
        java.util.Arrays.fill(torn, 10, 32, 0);
        x.open(4);
        due("keep 1", x.cut(1, 10), 1);
        dueBytes("it stays", x, 2, block);
        dueBytes("it is torn", x, 3, torn);
        dueBytes("it never was", x, 4, new int[32]);
        due("OFF", x.told(0), 0);
        due("what was open is gone", x.told(7), NONE);
        due("next as it was", x.told(1), 5);
        due("rows as they were", x.told(2), 1);
        due("again", x.cut(0, 1), NO);
        due("again, BAD", x.cut(0, 32), BAD);
        due("start", x.start(), 0);
        due("next", x.told(1), 3);
        due("kept", x.told(4), 0);
        due("nothing to keep", x.cut(1, 1), BAD);
        due("none is open", x.add(1, 1), NO);
        cutBringsBack();
        cutTearsHead();
    }

    private static void cutBringsBack() {
        PackDisk x = new PackDisk(20);
        for (int s = 2; s < 6; s++) {
            x.poke(s, 0, 200 + s);
            x.poke(s, 31, 7);
            x.lose(s);
        }
        lay(x, 1, 5, 40);
        x.protect(0, 1);
        due("written, so lost no more", x.told(8), 0);
        x.poke(3, 1, 255);
        x.poke(3, 30, 255);
        x.lose(3);
        x.lose(2);
        x.poke(5, 9, 1);
        due("keep 1", x.cut(1, 2), 1);
        due("what stays is lost as it was", x.whole(2), 0);
        due("lost: 2, 4, 5; the torn one is not", x.told(8), 3);
        due("lost 3", x.lose(3), 1);
        due("lost 4", x.lose(4), 0);
        int[] torn = new int[32];
        torn[0] = 2;
        torn[1] = 255;
        torn[31] = 7;
        dueBytes("torn", x, 3, torn);
        int[] ahead = new int[32];
        ahead[0] = 205;
        ahead[31] = 7;
        dueBytes("as it was ahead", x, 5, ahead);
    }

    private static void cutTearsHead() {
        PackDisk x = new PackDisk(20);
        lay(x, 1, 5);
        x.sync();
        x.sync();
        lay(x, 1, 6);
        x.lose(1);
        int[] was = bytes(x, 1);
        due("all stay", x.cut(2, 9), 1);
        int[] torn = sector(1, 0, 0, 0, 0, 0, 0, 3, 6, 2);
        System.arraycopy(was, 9, torn, 9, 23);
        dueBytes("the head is torn", x, 1, torn);
        due("it is not lost", x.told(8), 0);
        due("it is not whole", x.whole(1), 0);
        due("generation as it was", x.told(3), 2);
        due("both rows", x.start(), 2);
        due("generation of head 0", x.told(3), 2);
        due("nothing missing", x.listed(0), NONE);
        x = new PackDisk(20);
        due("nothing was written", x.cut(0, 31), 1);
        torn = sector(1, 0, 0, 0, 0, 0, 0, 1, 2, 0);
        torn[31] = 0;
        dueBytes("the head is torn", x, 1, torn);
    }

    private static void startCall() {
        promise = "8 start";
        PackDisk x = new PackDisk(20);
        due("ON", x.start(), NO);
        lay(x, 1, 5);
        x.sync();
        lay(x, 2, 6);
        x.cut(2, 5);
        due("rows", x.start(), 2);
        due("next", x.told(1), 6);
        due("generation", x.told(3), 1);
        due("kept", x.told(4), 0);
        due("ON", x.start(), NO);
        lay(x, 3, 7);
        x.cut(0, 8);
        due("without the third", x.start(), 2);
        due("next", x.told(1), 6);
        x.lose(0);
        x.lose(1);
        x.lose(4);
        restart(x);
        // The head in sector 0 is torn by the restart and no more lost, but not whole either.
        due("without heads, up to the lost one", x.told(1), 4);
        due("one row", x.told(2), 1);
        due("generation", x.told(3), 0);
        headsAtStart();
        logAtStart();
    }

    private static PackDisk withHeads(int[] zero, int[] one) {
        PackDisk x = new PackDisk(20);
        x.cut(0, 1);
        forge(x, 0, zero);
        forge(x, 1, one);
        x.start();
        return x;
    }

    private static void headsAtStart() {
        int[] nothing = new int[32];
        due("one head", withHeads(nothing, sector(1, 0, 0, 0, 0, 0, 1, 2, 20, 60)).told(3), 258);
        due("60 rows", withHeads(nothing, sector(1, 0, 0, 0, 0, 0, 1, 2, 20, 60)).told(2), 60);
        due("next 20 of 20", withHeads(nothing, sector(1, 0, 0, 0, 0, 0, 1, 2, 20, 60)).told(1), 20);
        due("61 rows", withHeads(nothing, sector(1, 0, 0, 0, 0, 0, 1, 2, 20, 61)).told(3), 0);
        due("next 21 of 20", withHeads(nothing, sector(1, 0, 0, 0, 0, 0, 1, 2, 21, 60)).told(3), 0);
        due("next 1", withHeads(nothing, sector(1, 0, 0, 0, 0, 0, 1, 2, 1, 60)).told(3), 0);
        due("next 2", withHeads(nothing, sector(1, 0, 0, 0, 0, 0, 1, 2, 2, 0)).told(3), 258);
        due("another sort", withHeads(nothing, sector(2, 0, 0, 0, 0, 0, 1, 2, 2, 0)).told(3), 0);
        due("none: next", withHeads(nothing, nothing).told(1), 2);
        due("the greater one is 1", withHeads(sector(1, 0, 0, 0, 0, 0, 0, 4, 5, 3), sector(1, 0, 0, 0, 0, 0, 0, 5, 6, 2))
            .told(1), 6);
        due("the greater one is 0", withHeads(sector(1, 0, 0, 0, 0, 0, 0, 4, 5, 3), sector(1, 0, 0, 0, 0, 0, 0, 3, 6, 2))
            .told(1), 5);
        due("like ones", withHeads(sector(1, 0, 0, 0, 0, 0, 0, 4, 5, 3), sector(1, 0, 0, 0, 0, 0, 0, 4, 6, 2)).told(1), 5);
        due("an int with its sign", withHeads(sector(1, 0, 0, 0, 0x80, 0, 0, 4, 5, 3),
            sector(1, 0, 0, 0, 0, 0, 0, 0, 6, 2)).told(1), 6);
        due("below 0 alone", withHeads(sector(1, 0, 0, 0, 255, 255, 255, 255, 5, 3), nothing).told(3), -1);
        due("a greater one that does not count", withHeads(sector(1, 0, 0, 0, 0, 0, 0, 4, 5, 3),
            sector(1, 0, 0, 0, 0, 0, 0, 9, 61, 2)).told(1), 5);
    }

    private static void logAtStart() {
        PackDisk x = new PackDisk(8);
        x.cut(0, 1);
        for (int s = 2; s < 8; s++) {
            forge(x, s, sector(2 + s % 3, 1, 5 + s, 0));
        }
        // Sectors 2 and 5 are symbols now, 3 and 6 blocks, 4 and 7 the rows 9 and 12.
        due("one more than the greatest number", x.start(), 13);
        due("up to the last sector", x.told(1), 8);
        due("row 9", x.row(9, 2), 4);
        due("row 8 is away", x.row(8, 2), NONE);
        x.cut(0, 1);
        forge(x, 5, sector(1, 0, 0, 0));
        due("no head in the log", x.start(), 10);
        due("next", x.told(1), 5);
        x.cut(0, 1);
        forge(x, 5, sector(5, 0, 0, 0));
        due("no sort 5 in the log", x.start(), 10);
        x.cut(0, 1);
        forge(x, 4, sector(3, 0, 60, 0));
        due("no row 60", x.start(), 0);
        due("but it is whole", x.told(1), 5);
        x.cut(0, 1);
        forge(x, 4, sector(3, 0, 59, 97));
        due("no row of 97 bytes", x.start(), 0);
        x.cut(0, 1);
        forge(x, 4, sector(3, 0, 59, 96));
        due("row 59 of 96 bytes", x.start(), 60);
    }

    /** A row of some blocks with P (1), Q (2) or both (3), all kept; then the told sectors are lost. */
    private static PackDisk hurt(int symbols, int[] starts, int... lost) {
        PackDisk x = new PackDisk(20);
        lay(x, 1, starts);
        int last = x.protect(0, 2);
        if ((symbols & 1) == 0) {
            x.lose(last - 1);
        }
        if ((symbols & 2) == 0) {
            x.lose(last);
        }
        x.sync();
        for (int s : lost) {
            x.lose(s);
        }
        restart(x);
        return x;
    }

    private static void dueRepair(String what, PackDisk x, int want, int... starts) {
        due(what + ": repaired", x.told(5), want);
        due(what + ": listed", x.listed(0), want > 0 ? NONE : 0);
        for (int i = 0; want > 0 && i < 24 * starts.length; i++) {
            due(what + ": byte " + i, at(x, 0, i), starts[i / 24] + i % 24 & 255);
        }
    }

    private static void repair() {
        promise = "8 start, repair";
        int[] four = {10, 100, 190, 230};
        for (int a = 2; a < 6; a++) {
            dueRepair("P alone, " + a, hurt(1, four, a), 1, four);
            dueRepair("Q alone, " + a, hurt(2, four, a), 1, four);
            dueRepair("both, " + a, hurt(3, four, a), 1, four);
            dueRepair("none, " + a, hurt(0, four, a), 0);
            for (int b = a + 1; b < 6; b++) {
                dueRepair("both, " + a + " and " + b, hurt(3, four, a, b), 2, four);
                dueRepair("P, " + a + " and " + b, hurt(1, four, a, b), 0);
                dueRepair("Q, " + a + " and " + b, hurt(2, four, a, b), 0);
            }
        }
        dueRepair("three", hurt(3, four, 2, 3, 5), 0);
        sharedSectors();
        symbolsThatDoNotFit();
        roundByRound();
        repairKeeps();
    }

    private static void sharedSectors() {
        int[] twice = {10, 10};
        dueRepair("twice in a row, P", hurt(1, twice, 2), 0);
        dueRepair("twice in a row, Q", hurt(2, twice, 2), 1, twice);
        dueRepair("twice in a row, both", hurt(3, twice, 2), 1, twice);
        int[] thrice = {10, 10, 50, 10};
        dueRepair("thrice in a row, P", hurt(1, thrice, 2), 1, thrice);
        dueRepair("thrice in a row, Q", hurt(2, thrice, 2), 1, thrice);
        dueRepair("thrice and once, both", hurt(3, thrice, 2, 3), 2, thrice);
        int[] pairs = {10, 50, 10, 50};
        dueRepair("two pairs, both", hurt(3, pairs, 2, 3), 0);
        int[] mixed = {10, 50, 50};
        dueRepair("one and a pair", hurt(3, mixed, 2, 3), 2, mixed);
    }

    private static void symbolsThatDoNotFit() {
        int[] p = new int[24];
        PackDisk x = new PackDisk(20);
        lay(x, 1, 10, 100);
        x.protect(0, 2);
        x.sync();
        forge(x, 5, sector(4, 0, 0, 0, p));
        x.lose(2);
        restart(x);
        due("P and Q do not fit one another", x.told(5), 0);
        x.lose(6);
        restart(x);
        due("P alone fits anything", x.told(5), 1);
        due("by that P", at(x, 0, 3), 103);
        x = new PackDisk(20);
        lay(x, 1, 10, 10);
        x.protect(0, 2);
        forge(x, 4, sector(4, 0, 0, 0, 1));
        x.sync();
        x.lose(2);
        restart(x);
        due("a pair leaves P no way", x.told(5), 0);
        x.lose(4);
        restart(x);
        due("Q alone", x.told(5), 1);
        due("by Q", at(x, 0, 30), 16);
        x = new PackDisk(20);
        lay(x, 1, 10, 100);
        x.protect(0, 1);
        forge(x, 4, sector(3, 1, 0, 48, 2, 9));
        x.sync();
        x.lose(2);
        restart(x);
        due("one block is told behind the log", x.told(5), 0);
        due("two are missing", x.row(0, 6), 2);
    }

    private static void roundByRound() {
        PackDisk x = new PackDisk(40);
        lay(x, 1, 10, 20, 30);
        lay(x, 2, 10, 40);
        lay(x, 3, 40);
        x.protect(0, 1);
        x.protect(1, 1);
        x.protect(2, 1);
        x.sync();
        x.lose(2);
        x.lose(3);
        x.lose(6);
        restart(x);
        // Row 2 brings 40 back, with it row 1 brings 10 back in the next round; row 0 then brings 20 back.
        due("three in three rounds", x.told(5), 3);
        due("nothing is missing", x.listed(0), NONE);
        due("of row 0", at(x, 0, 24), 20);
        due("of row 1", at(x, 1, 47), 63);
        restart(x);
        due("the latest start brought nothing", x.told(5), 0);
    }

    private static void repairKeeps() {
        PackDisk x = hurt(3, new int[] {10, 100}, 2);
        due("repaired ones are kept", x.told(4), 0);
        due("lost no more", x.told(8), 0);
        int[] content = new int[24];
        for (int i = 0; i < 24; i++) {
            content[i] = 10 + i;
        }
        dueBytes("a block again", x, 2, sector(2, 0, 0, 0, content));
        due("next as it was", x.told(1), 7);
        due("told while OFF", x.cut(0, 1), 1);
        due("the latest start", x.told(5), 1);
    }

    private static void atCall() {
        promise = "9 at";
        PackDisk x = new PackDisk(20);
        due("no row", at(x, 0, 0), BAD);
        lay(x, 1, 240, 3);
        due("row -1", at(x, -1, 0), BAD);
        due("row 1, no such byte", at(x, 1, 99), BAD);
        due("row most", at(x, MOST, 0), BAD);
        due("byte 0", at(x, 0, 0), 240);
        due("byte 23", at(x, 0, 23), 7);
        due("byte 24", at(x, 0, 24), 3);
        due("byte 47", at(x, 0, 47), 26);
        due("byte 48", at(x, 0, 48), THROWN);
        due("byte -1", at(x, 0, -1), THROWN);
        due("byte least", at(x, 0, LEAST), THROWN);
        due("byte most", at(x, 0, MOST), THROWN);
        x.lose(3);
        due("of a lost block", at(x, 0, 24), MISSING);
        due("of the other", at(x, 0, 23), 7);
        due("no such byte goes ahead", at(x, 0, 48), THROWN);
        x.open(0);
        x.end();
        due("of an empty row", at(x, 1, 0), THROWN);
        x.lose(4);
        due("away", at(x, 0, 0), NO);
        due("away, no such byte", at(x, 0, 48), NO);
        x.cut(0, 1);
        due("OFF", at(x, 1, 0), NO);
        due("OFF, BAD", at(x, 2, 0), BAD);
    }

    private static void rowCall() {
        promise = "10 row";
        PackDisk x = new PackDisk(20);
        due("no row", x.row(0, 0), BAD);
        lay(x, 6, 1, 2, 1);
        x.protect(0, 2);
        int[] want = {6, 72, 4, 5, 6, 3, 0, BAD, BAD, BAD, 2, 3, 2, NONE, BAD};
        for (int what = 0; what < want.length; what++) {
            due("row(0, " + what + ")", x.row(0, what), want[what]);
        }
        due("what -1", x.row(0, -1), BAD);
        due("what least", x.row(0, LEAST), BAD);
        due("what most", x.row(0, MOST), BAD);
        due("row -1", x.row(-1, 0), BAD);
        due("row 1", x.row(1, 0), BAD);
        x.lose(2);
        due("two are missing", x.row(0, 6), 2);
        due("three blocks", x.row(0, 5), 3);
        due("told to be there", x.row(0, 10), 2);
        x.poke(5, 20, 4);
        due("P is not whole", x.row(0, 3), NONE);
        forge(x, 7, sector(3, 1, 0, 24, 3));
        due("behind the log", x.row(0, 2), 4);
        due("another block is not whole", x.poke(3, 0, 1), 3);
        due("three are missing", x.row(0, 6), 3);
        x.lose(4);
        due("away", x.row(0, 0), NONE);
        due("away, 10", x.row(0, 10), NONE);
        due("away, BAD", x.row(0, 7), BAD);
        x.cut(0, 1);
        due("OFF", x.row(0, 0), NO);
        due("OFF, BAD", x.row(0, 9), BAD);
        due("OFF, row 1", x.row(1, 0), BAD);
        lastOnes();
    }

    private static void lastOnes() {
        PackDisk x = new PackDisk(20);
        x.cut(0, 1);
        forge(x, 2, sector(3, 1, 0, 0));
        forge(x, 3, sector(3, 2, 0, 24, 1));
        forge(x, 4, sector(3, 3, 0, 97));
        forge(x, 5, sector(4, 0, 0, 0));
        forge(x, 6, sector(4, 0, 0, 9));
        forge(x, 7, sector(4, 0, 2, 0));
        forge(x, 8, sector(4, 0, 1, 0));
        x.start();
        due("the last with 96 bytes at most", x.row(0, 2), 3);
        due("its kind", x.row(0, 0), 2);
        due("the last P", x.row(0, 3), 6);
        due("its Q", x.row(0, 4), 8);
        due("a block among the heads is missing", x.row(0, 6), 1);
        due("told to be there", x.row(0, 10), 1);
        due("nothing was repaired", x.told(5), 0);
        x.lose(3);
        due("the one ahead", x.row(0, 2), 2);
        x = new PackDisk(20);
        x.cut(0, 1);
        forge(x, 2, sector(4, 0, 0, 0, 9));
        forge(x, 3, sector(3, 1, 0, 24, 5));
        forge(x, 4, sector(4, 0, 1, 0, 9));
        x.start();
        due("a P in the first sector of the log", x.row(0, 3), 2);
        x.poke(5, 31, 1);
        due("a block told to be just behind the log", x.row(0, 6), 1);
        forge(x, 5, sector(2, 0, 0, 0, 9));
        due("whole, but still behind it", x.row(0, 6), 1);
        due("so its byte is missing", at(x, 0, 0), MISSING);
        due("and a row with it is not protected", x.protect(0, 1), NO);
        restart(x);
        due("in the log at the next start", at(x, 0, 0), 9);
    }

    private static void loseCall() {
        promise = "11 lose";
        PackDisk x = new PackDisk(10);
        due("-1", x.lose(-1), BAD);
        due("10", x.lose(10), BAD);
        due("least", x.lose(LEAST), BAD);
        due("most", x.lose(MOST), BAD);
        lay(x, 1, 5);
        due("9", x.lose(9), 1);
        due("9 again", x.lose(9), 0);
        due("0", x.lose(0), 1);
        due("2", x.lose(2), 1);
        due("not whole", x.whole(2), 0);
        due("its bytes are there", x.octet(2, 4), 5);
        due("three", x.told(8), 3);
        x.cut(0, 1);
        due("OFF", x.lose(5), 1);
    }

    private static void pokeCall() {
        promise = "12 poke";
        PackDisk x = new PackDisk(10);
        int[][] bad = {{-1, 0, 0}, {10, 0, 0}, {0, -1, 0}, {0, 32, 0}, {0, 0, -1}, {0, 0, 256}, {MOST, 0, 0},
            {LEAST, 0, 0}, {0, MOST, 0}, {0, LEAST, 0}, {0, 0, LEAST}, {0, 0, MOST}};
        for (int[] b : bad) {
            due("poke " + java.util.Arrays.toString(b), x.poke(b[0], b[1], b[2]), BAD);
        }
        due("255", x.poke(9, 31, 255), 255);
        due("0", x.poke(9, 31, 0), 255);
        due("15", x.poke(9, 31, 15), 240);
        due("octet", x.octet(9, 31), 240);
        lay(x, 1, 5);
        for (int i = 0; i < 32; i++) {
            x.poke(2, i, 1);
            due("hurt at " + i, x.whole(2), 0);
            x.poke(2, i, 1);
            due("again whole", x.whole(2), 2);
        }
        x.lose(2);
        due("a lost one", x.poke(2, 4, 1), 4);
        x.poke(2, 4, 1);
        due("still lost", x.whole(2), 0);
        x.cut(0, 1);
        due("OFF", x.poke(7, 3, 9), 9);
    }

    private static void octetCall() {
        promise = "13 octet";
        PackDisk x = new PackDisk(10);
        lay(x, 1, 250);
        due("-1", x.octet(-1, 0), BAD);
        due("10", x.octet(10, 0), BAD);
        due("byte -1", x.octet(0, -1), BAD);
        due("byte 32", x.octet(0, 32), BAD);
        due("byte most", x.octet(0, MOST), BAD);
        due("sort", x.octet(2, 0), 2);
        due("without sign", x.octet(2, 4), 250);
        x.lose(2);
        due("lost", x.octet(2, 4), 250);
        dueBytes("the sum", x, 3, sector(3, 1, 0, 24, 2));
        x.cut(2, 1);
        due("OFF", x.octet(3, 3), 24);
    }

    private static void wholeCall() {
        promise = "14 whole";
        PackDisk x = new PackDisk(10);
        due("-1", x.whole(-1), BAD);
        due("10", x.whole(10), BAD);
        due("least", x.whole(LEAST), BAD);
        lay(x, 1, 250);
        x.protect(0, 1);
        x.sync();
        int[] sorts = {0, 1, 2, 3, 4, 0, 0, 0, 0, 0};
        for (int s = 0; s < 10; s++) {
            due("whole(" + s + ")", x.whole(s), sorts[s]);
        }
        for (int sort = 0; sort < 256; sort++) {
            forge(x, 9, sector(sort, 4, 5, 6, 7));
            due("sort " + sort, x.whole(9), sort >= 1 && sort <= 4 ? sort : 0);
        }
        x.lose(3);
        due("lost", x.whole(3), 0);
        x.cut(0, 1);
        due("OFF", x.whole(2), 2);
    }

    private static void listedCall() {
        promise = "15 listed";
        PackDisk x = new PackDisk(30);
        due("none", x.listed(0), NONE);
        lay(x, 1, 10);
        lay(x, 1, 50);
        lay(x, 1, 90, 50);
        lay(x, 1, 130);
        due("none", x.listed(0), NONE);
        x.lose(4);
        due("0", x.listed(0), 1);
        due("1", x.listed(1), 2);
        due("2", x.listed(2), NONE);
        x.lose(3);
        due("0", x.listed(0), 0);
        due("2", x.listed(2), 2);
        due("3", x.listed(3), NONE);
        due("-1", x.listed(-1), NONE);
        due("least", x.listed(LEAST), NONE);
        due("most", x.listed(MOST), NONE);
        x.cut(8, 1);
        due("OFF", x.listed(0), NONE);
        x.start();
        due("again ON", x.listed(0), NONE);
    }

    private static void toldCall() {
        promise = "16 told";
        PackDisk x = new PackDisk(25);
        due("-1", x.told(-1), BAD);
        due("10", x.told(10), BAD);
        due("least", x.told(LEAST), BAD);
        due("most", x.told(MOST), BAD);
        lay(x, 1, 10);
        lay(x, 1, 10);
        x.sync();
        x.protect(0, 1);
        x.open(3);
        x.add(1, 3);
        x.lose(7);
        x.lose(8);
        int[] want = {1, 6, 2, 1, 1, 0, 1, 3, 2, 25};
        for (int what = 0; what < 10; what++) {
            due("told(" + what + ")", x.told(what), want[what]);
        }
        x.cut(0, 4);
        // Nothing in the document keeps what was written but a sync or a start, so 4 is as it was.
        int[] off = {0, 6, 2, 1, 1, 0, 1, NONE, 2, 25};
        for (int what = 0; what < 10; what++) {
            due("OFF, told(" + what + ")", x.told(what), off[what]);
        }
        x.start();
        int[] again = {1, 5, 2, 1, 0, 0, 1, NONE, 2, 25};
        for (int what = 0; what < 10; what++) {
            due("again, told(" + what + ")", x.told(what), again[what]);
        }
    }

    public static void main(String[] args) {
        newObject();
        openCall();
        addCall();
        endCall();
        protectCall();
        syncCall();
        cutCall();
        startCall();
        repair();
        atCall();
        rowCall();
        loseCall();
        pokeCall();
        octetCall();
        wholeCall();
        listedCall();
        toldCall();
        System.out.println(wrong == 0 ? "all answers are as due" : wrong + " answers are not as due");
        if (wrong != 0) {
            System.exit(1);
        }
    }
}
