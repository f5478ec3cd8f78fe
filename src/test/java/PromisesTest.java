/** Promises 1 to 16, each call by itself: ordinary inputs, and each bound just inside and just outside. */
public final class PromisesTest {
    private static final int NONE = Disk.NONE, BAD = Disk.BAD, NO = Disk.NO, FULL = Disk.FULL;
    private static final int MISSING = Disk.MISSING, THROWN = Disk.THROWN, LEAST = Disk.LEAST, MOST = Disk.MOST;

    private static void newObject() {
        Checks.sentence("1: n SECTORS (less than 8 counts as 8, more than 60 as 60)");
        int[][] sizes = {{LEAST, 8}, {-60, 8}, {-1, 8}, {0, 8}, {7, 8}, {8, 8}, {9, 9}, {59, 59}, {60, 60}, {61, 60},
            {256, 60}, {MOST, 60}};
        for (int[] size : sizes) {
            Disk x = new Disk(size[0]);
            Checks.due("told(9) of " + size[0], x.told(9), size[1]);
            Checks.due("the last sector of " + size[0], x.octet(size[1] - 1, 31), 0);
            Checks.due("one behind it", x.octet(size[1], 0), BAD);
            Checks.due("lose the last", x.lose(size[1] - 1), 1);
            Checks.due("lose one behind", x.lose(size[1]), BAD);
        }
        Checks.sentence("1: it is ON");
        Checks.dueTold("a new object", new Disk(12), 1, 2, 0, 0, 0, 0, 0, NONE, 0, 12);
        Checks.due("start", new Disk(12).start(), NO);
        Checks.due("open", new Disk(12).open(0), 0);
        Checks.sentence("1: a new object");
        Disk one = new Disk(12);
        Disk other = new Disk(12);
        one.lay(1, 10);
        Checks.due("an object by itself", other.told(1), 2);
        Checks.due("an object by itself", other.octet(2, 0), 0);
    }

    private static void openCall() {
        Checks.sentence("2: A ROW of a KIND is OPEN: its number, when it ENDS.");
        for (int kind = -2; kind <= 11; kind++) {
            boolean good = kind >= 0 && kind <= 9;
            Disk x = new Disk(8);
            Checks.due("kind " + kind, x.open(kind), good ? 0 : BAD);
            Checks.due("kind " + kind + ": its bytes", x.told(7), good ? 0 : NONE);
            Checks.due("kind " + kind + ": end", x.end(), good ? 0 : NO);
            Checks.due("kind " + kind + ": the row's", x.row(0, 0), good ? kind : BAD);
        }
        Disk x = new Disk(30);
        for (int k = 0; k < 10; k++) {
            Checks.due("number " + k, x.open(k), k);
            Checks.due("rows, while it is open", x.told(2), k);
            Checks.due("its end", x.end(), k);
            Checks.due("rows", x.told(2), k + 1);
        }
        Checks.sentence("2: NO: OFF, or one is OPEN");
        x.open(1);
        Checks.due("one is open", x.open(2), NO);
        Checks.due("its kind is as it was", x.end(), 10);
        Checks.due("its kind is as it was", x.row(10, 0), 1);
        Checks.due("none is open", x.open(2), 11);
        x.cut(0, 1);
        Checks.due("OFF", x.open(2), NO);
        x.start();
        Checks.due("ON", x.open(2), 0);
        openWithoutRoom();
    }

    private static void openWithoutRoom() {
        Checks.sentence("2: FULL: not 5 SECTORS are left behind NEXT (with it)");
        Disk x = new Disk(8);
        Checks.due("6 left", x.open(0), 0);
        x.end();
        Checks.due("5 left", x.open(0), 1);
        x.addBytes(1, 96);
        Checks.due("they are enough", x.end(), 1);
        Checks.due("NEXT", x.told(1), 8);
        Checks.due("none left", x.open(0), FULL);
        x = new Disk(8);
        x.lay(1);
        x.lay(1);
        Checks.due("4 left", x.open(0), FULL);
        x = new Disk(60);
        x.put(1, Disk.head(1, 55, 0));
        x.put(0, Disk.head(2, 56, 0));
        x.restart();
        Checks.due("4 left of 60", x.open(0), FULL);
        x.lose(0);
        x.restart();
        Checks.due("5 left of 60", x.open(0), 0);
        Checks.sentence("2: FULL: .. or there are 60 ROWS");
        x = new Disk(60);
        x.put(1, Disk.head(1, 2, 59));
        x.restart();
        Checks.due("59 rows", x.open(0), 59);
        Checks.due("its end", x.end(), 59);
        Checks.due("60 rows", x.told(2), 60);
        Checks.due("60 rows", x.open(0), FULL);
        Checks.due("row 59", x.row(59, 2), 2);
        Checks.due("P and Q of row 59", x.protect(59, 2), 4);
        Checks.due("rows at the next start", x.restart(), 60);
    }

    private static void addCall() {
        Checks.sentence("3: The n (1 .. 8) lowest bytes of a number come to the OPEN ROW, the lowest first");
        long bytes = 0x8877665544332211L;
        for (int n = -1; n <= 10; n++) {
            boolean good = n >= 1 && n <= 8;
            Disk x = new Disk(8);
            x.open(0);
            x.add(0xEE, 1);
            Checks.due("n " + n, x.add(bytes, n), good ? 1 + n : BAD);
            Checks.due("n " + n + ": how many it has", x.told(7), good ? 1 + n : 1);
            x.end();
            for (int k = 0; good && k < n; k++) {
                Checks.due("n " + n + ": byte " + k, x.at(0, 1 + k), 0x11 * (k + 1));
            }
            Checks.due("n " + n + ": no more", x.at(0, good ? 1 + n : 1), THROWN);
        }
        Disk x = new Disk(8);
        x.open(0);
        x.add(-2L, 8);
        x.add(Long.MIN_VALUE, 8);
        x.add(Long.MAX_VALUE, 8);
        x.end();
        int[] want = {254, 255, 255, 255, 255, 255, 255, 255, 0, 0, 0, 0, 0, 0, 0, 128, 255, 255, 255, 255, 255, 255,
            255, 127};
        for (int i = 0; i < 24; i++) {
            Checks.due("byte " + i, x.at(0, i), want[i]);
        }
        Checks.sentence("3: NO: OFF, or none is OPEN");
        Checks.due("none is open any more", x.add(1, 1), NO);
        Checks.due("none is open yet", new Disk(8).add(1, 1), NO);
        x.restart();
        Checks.due("none is open behind a start", x.add(1, 1), NO);
        Checks.sentence("3: FULL: above 96");
        for (int had = 87; had <= 96; had++) {
            for (int n = 1; n <= 8; n++) {
                x = new Disk(8);
                x.open(0);
                x.addBytes(0, had);
                Checks.due(had + " and " + n, x.add(0, n), had + n > 96 ? FULL : had + n);
                Checks.due(had + " and " + n + ": told", x.told(7), had + n > 96 ? had : had + n);
            }
        }
    }

    private static void endCall() {
        Checks.sentence("4: The OPEN ROW ENDS: its number.");
        Disk x = new Disk(60);
        for (int k = 0; k < 12; k++) {
            x.open(k % 10);
            x.addBytes(20 * k, 1 + k);
            Checks.due("row " + k, x.end(), k);
            Checks.due("none is open", x.told(7), NONE);
            Checks.due("its bytes", x.row(k, 1), 1 + k);
            Checks.due("its last byte", x.at(k, k), 21 * k);
        }
        Checks.sentence("4: NO: OFF, or none is OPEN.");
        Checks.due("twice", x.end(), NO);
        Checks.due("none yet", new Disk(8).end(), NO);
        x.open(1);
        x.cut(0, 1);
        Checks.due("OFF", x.end(), NO);
        x.start();
        Checks.due("what was open is gone", x.end(), NO);
    }

    private static void protectCall() {
        Checks.sentence("5: SYMBOLS of a ROW are written: P (n = 1), P and Q (2), in this order: the SECTOR of the last one");
        Disk x = new Disk(40);
        x.lay(1, 10, 100);
        x.lay(2, 50);
        Checks.due("P", x.protect(0, 1), 7);
        Checks.due("P is there", x.row(0, 3), 7);
        Checks.due("Q is not", x.row(0, 4), NONE);
        Checks.due("P and Q", x.protect(0, 2), 9);
        Checks.due("P", x.row(0, 3), 8);
        Checks.due("Q", x.row(0, 4), 9);
        Checks.due("the other row", x.row(1, 3), NONE);
        Checks.due("the last row", x.protect(1, 2), 11);
        for (int n = -1; n <= 4; n++) {
            Checks.due("n " + n, new Disk(8).protect(0, n), BAD);
        }
        Checks.due("n 0", x.protect(0, 0), BAD);
        Checks.due("n 3", x.protect(0, 3), BAD);
        Checks.due("row -1", x.protect(-1, 1), BAD);
        Checks.due("row 2", x.protect(2, 1), BAD);
        x.open(3);
        Checks.due("the open row is none yet", x.protect(2, 1), BAD);
        Checks.due("another one, while it is open", x.protect(1, 1), 12);
        x.add(9, 1);
        x.end();
        Checks.due("its end comes behind", x.row(2, 2), 14);
        Checks.due("it is one now", x.protect(2, 1), 15);
        Checks.sentence("5: NO: OFF, it is AWAY, or a BLOCK of it is MISSING");
        x.lose(3);
        Checks.due("a block is missing", x.protect(0, 1), NO);
        Checks.due("the other row has all", x.protect(1, 1), 16);
        x.lose(x.row(1, 2));
        Checks.due("away", x.protect(1, 1), NO);
        x.cut(x.told(4), 1);
        Checks.due("OFF", x.protect(2, 1), NO);
        protectWithoutRoom();
    }

    private static void protectWithoutRoom() {
        Checks.sentence("5: FULL: not n SECTORS are left (while a ROW is OPEN: not n + 5)");
        for (int left = 0; left <= 3; left++) {
            for (int n = 1; n <= 2; n++) {
                Disk x = new Disk(12);
                x.put(1, Disk.head(1, 12 - left, 1));
                x.put(2, Disk.sector(3, 1, 0, 0));
                x.restart();
                int due = left < n ? FULL : 12 - left + n - 1;
                Checks.due(left + " left, n " + n, x.protect(0, n), due);
                Checks.due(left + " left, n " + n + ": NEXT", x.told(1), 12 - left + (left < n ? 0 : n));
                Checks.due(left + " left, n " + n + ": not kept", x.told(4), left < n ? 0 : n);
            }
        }
        for (int left = 5; left <= 8; left++) {
            for (int n = 1; n <= 2; n++) {
                Disk x = new Disk(3 + left);
                x.lay(1);
                x.open(2);
                x.addBytes(1, 96);
                boolean full = left < n + 5;
                Checks.due(left + " left, open, n " + n, x.protect(0, n), full ? FULL : 2 + n);
                Checks.due(left + " left, open, n " + n + ": its end", x.end(), 1);
                Checks.due(left + " left, open, n " + n + ": its last byte", x.at(1, 95), 96);
            }
        }
    }

    private static void syncCall() {
        Checks.sentence("6: SYNC: the GENERATION. NO: OFF.");
        Disk x = new Disk(8);
        for (int k = 1; k <= 5; k++) {
            Checks.due("the " + k + "th", x.sync(), k);
        }
        x.cut(0, 1);
        Checks.due("OFF", x.sync(), NO);
        Checks.due("as it was", x.told(3), 5);
        x.start();
        Checks.due("from what the head told", x.sync(), 6);
        x = new Disk(8);
        x.lay(1);
        x.lay(1, 10, 50, 90, 130);
        Checks.due("without a sector left", x.sync(), 1);
    }

    private static void cutCall() {
        Checks.sentence("7: keep stay, and tear (1 .. 31) first bytes of the one behind them: 1");
        Story three = new Story(12, x -> x.lay(1, 10, 50));
        for (int keep = -1; keep <= 4; keep++) {
            int[] tears = {LEAST, -1, 0, 1, 2, 30, 31, 32, 33, MOST};
            for (int tear : tears) {
                boolean good = keep >= 0 && keep <= 3 && tear >= 1 && tear <= 31;
                Disk x = three.again();
                Checks.due("cut(" + keep + ", " + tear + ")", x.cut(keep, tear), good ? 1 : BAD);
                Checks.due("cut(" + keep + ", " + tear + "): ON", x.told(0), good ? 0 : 1);
                Checks.due("cut(" + keep + ", " + tear + "): block 0", x.whole(2), good && keep < 1 ? 0 : 2);
                Checks.due("cut(" + keep + ", " + tear + "): block 1", x.whole(3), good && keep < 2 ? 0 : 2);
                Checks.due("cut(" + keep + ", " + tear + "): the row", x.whole(4), good && keep < 3 ? 0 : 3);
            }
        }
        Checks.sentence("7: BAD: .. keep is not 0 to as many as were written and are not KEPT");
        Disk x = three.again();
        Checks.due("3 are not kept, keep 4", x.cut(4, 1), BAD);
        x.sync();
        Checks.due("all are kept, keep 1", x.cut(1, 1), BAD);
        Checks.due("all are kept, keep 0", x.cut(0, 1), 1);
        Checks.sentence("7: NO: OFF");
        Checks.due("OFF", x.cut(0, 1), NO);
        x.start();
        Checks.due("behind a start, keep 1", x.cut(1, 1), BAD);
        Checks.due("behind a start, keep 0", x.cut(0, 1), 1);
    }

    private static void startCall() {
        Checks.sentence("8: START: how many ROWS there are. NO: ON.");
        Disk x = new Disk(20);
        Checks.due("ON", x.start(), NO);
        x.cut(0, 1);
        Checks.due("no row", x.start(), 0);
        x.lay(1, 5);
        x.sync();
        x.lay(2, 6);
        x.cut(2, 5);
        Checks.due("two rows", x.start(), 2);
        Checks.dueTold("two rows", x, 1, 6, 2, 1, 0, 0, 0, NONE, 0, 20);
        Checks.due("ON", x.start(), NO);
        x.lay(3, 7);
        x.cut(1, 8);
        Checks.due("without the third", x.start(), 2);
        Checks.due("but with its block", x.told(1), 7);
    }

    private static void atCall() {
        Checks.sentence("9: Byte i of a ROW (without sign).");
        Disk x = new Disk(20);
        x.lay(1, 120, 240);
        for (int i = 0; i < 48; i++) {
            Checks.due("byte " + i, x.at(0, i), (i < 24 ? 120 + i : 240 + i - 24) & 255);
        }
        Checks.sentence("9: ArrayIndexOutOfBoundsException: it has no such byte");
        for (int i : new int[] {LEAST, -24, -1, 48, 49, 95, 96, MOST}) {
            Checks.due("byte " + i, x.at(0, i), THROWN);
        }
        x.lay(1);
        Checks.due("byte 0 of none", x.at(1, 0), THROWN);
        Checks.due("byte -1 of none", x.at(1, -1), THROWN);
        Checks.sentence("9: BAD: the ROW");
        for (int row : new int[] {LEAST, -1, 2, 59, 60, MOST}) {
            Checks.due("row " + row, x.at(row, 0), BAD);
            Checks.due("row " + row + ", no such byte", x.at(row, 99), BAD);
        }
        x.open(2);
        x.add(1, 1);
        Checks.due("the open row", x.at(2, 0), BAD);
        Checks.sentence("9: MISSING: its BLOCK is that");
        x.lose(3);
        Checks.due("the last byte of the block ahead", x.at(0, 23), 143);
        Checks.due("the first byte of the lost one", x.at(0, 24), MISSING);
        Checks.due("the last byte of the lost one", x.at(0, 47), MISSING);
        Checks.due("no such byte goes ahead", x.at(0, 48), THROWN);
        Checks.sentence("9: NO: OFF, or it is AWAY");
        x.lose(4);
        Checks.due("away", x.at(0, 0), NO);
        Checks.due("away, no such byte", x.at(0, 48), NO);
        Checks.due("another row", x.at(1, 0), THROWN);
        x.cut(x.told(4), 1);
        Checks.due("OFF", x.at(1, 0), NO);
        Checks.due("OFF, no such byte", x.at(1, -1), NO);
    }

    private static void rowCall() {
        Checks.sentence("10: Of a ROW: 0 its KIND, 1 how many bytes, 2 its SECTOR, 3 its P's, 4 its Q's SECTOR (NONE), "
            + "5 how many BLOCKS, 6 how many of them are MISSING, 10 + k the SECTOR that BLOCK k is told to be (NONE)");
        Disk x = new Disk(20);
        x.lay(6, 1, 2, 1);
        int[] bare = {6, 72, 4, NONE, NONE, 3, 0, BAD, BAD, BAD, 2, 3, 2, NONE, BAD, BAD};
        dueRow("no symbols", x, 0, bare);
        x.protect(0, 1);
        Checks.due("P", x.row(0, 3), 5);
        Checks.due("no Q", x.row(0, 4), NONE);
        x.protect(0, 2);
        x.lose(2);
        int[] hurt = {6, 72, 4, 6, 7, 3, 2, BAD, BAD, BAD, 2, 3, 2, NONE, BAD, BAD};
        dueRow("a block is lost", x, 0, hurt);
        x.lay(0);
        int[] empty = {0, 0, 8, NONE, NONE, 0, 0, BAD, BAD, BAD, NONE, NONE, NONE, NONE, BAD, BAD};
        dueRow("no bytes", x, 1, empty);
        Checks.sentence("10: BAD; NO: OFF; NONE: it is AWAY.");
        for (int what : new int[] {LEAST, -1, 7, 9, 14, 15, MOST}) {
            Checks.due("what " + what, x.row(0, what), BAD);
        }
        for (int row : new int[] {LEAST, -1, 2, 59, 60, MOST}) {
            Checks.due("row " + row, x.row(row, 0), BAD);
        }
        x.lose(4);
        int[] away = {NONE, NONE, NONE, NONE, NONE, NONE, NONE, BAD, BAD, BAD, NONE, NONE, NONE, NONE, BAD, BAD};
        dueRow("away", x, 0, away);
        x.cut(x.told(4), 1);
        int[] off = {NO, NO, NO, NO, NO, NO, NO, BAD, BAD, BAD, NO, NO, NO, NO, BAD, BAD};
        dueRow("OFF and away", x, 0, off);
        dueRow("OFF", x, 1, off);
        Checks.due("OFF, row 2", x.row(2, 0), BAD);
    }

    private static void dueRow(String what, Disk x, int row, int[] want) {
        for (int k = 0; k < want.length; k++) {
            Checks.due(what + ", row(" + row + ", " + k + ")", x.row(row, k), want[k]);
        }
    }

    private static void loseCall() {
        Checks.sentence("11: A SECTOR is LOST: 1; 0 if it was. BAD.");
        Disk x = new Disk(10);
        for (int s : new int[] {LEAST, -1, 10, MOST}) {
            Checks.due("sector " + s, x.lose(s), BAD);
        }
        x.lay(1, 5);
        for (int s : new int[] {0, 1, 2, 9}) {
            Checks.due("sector " + s, x.lose(s), 1);
            Checks.due("sector " + s + " again", x.lose(s), 0);
        }
        Checks.due("four", x.told(8), 4);
        Checks.due("its bytes are there", x.octet(2, 4), 5);
        Checks.due("not whole", x.whole(2), 0);
        x.cut(2, 1);
        Checks.due("OFF", x.lose(5), 1);
        Checks.due("OFF again", x.lose(5), 0);
        Checks.due("OFF, sector 10", x.lose(10), BAD);
    }

    private static void pokeCall() {
        Checks.sentence("12: Byte i of a SECTOR becomes itself ^ mask (0 .. 255): what it is then. BAD.");
        Disk x = new Disk(10);
        int[][] bad = {{LEAST, 0, 1}, {-1, 0, 1}, {10, 0, 1}, {MOST, 0, 1}, {0, LEAST, 1}, {0, -1, 1}, {0, 32, 1},
            {0, MOST, 1}, {0, 0, LEAST}, {0, 0, -1}, {0, 0, 256}, {0, 0, MOST}};
        for (int[] b : bad) {
            Checks.due("poke " + java.util.Arrays.toString(b), x.poke(b[0], b[1], b[2]), BAD);
        }
        for (int s : new int[] {0, 9}) {
            for (int i : new int[] {0, 31}) {
                Checks.due("mask 255", x.poke(s, i, 255), 255);
                Checks.due("mask 0", x.poke(s, i, 0), 255);
                Checks.due("mask 15", x.poke(s, i, 15), 240);
                Checks.due("mask 1", x.poke(s, i, 1), 241);
                Checks.due("octet", x.octet(s, i), 241);
            }
        }
        x.lay(1, 5);
        x.lose(2);
        Checks.due("a lost one", x.poke(2, 4, 1), 4);
        Checks.due("it stays lost", x.lose(2), 0);
        x.cut(0, 1);
        Checks.due("OFF", x.poke(7, 3, 9), 9);
        Checks.due("OFF, mask 256", x.poke(7, 3, 256), BAD);
    }

    private static void octetCall() {
        Checks.sentence("13: Byte i of a SECTOR (also of a LOST one). BAD.");
        Disk x = new Disk(10);
        x.lay(1, 240);
        for (int s : new int[] {LEAST, -1, 10, MOST}) {
            Checks.due("sector " + s, x.octet(s, 0), BAD);
        }
        for (int i : new int[] {LEAST, -1, 32, MOST}) {
            Checks.due("byte " + i, x.octet(2, i), BAD);
        }
        int[] block = Disk.sector(2, 0, 0, 0, Disk.counting(240));
        Checks.dueBytes("a block, bytes without sign", x, 2, block);
        x.lose(2);
        Checks.dueBytes("a lost one", x, 2, block);
        x.cut(2, 1);
        Checks.dueBytes("OFF", x, 2, block);
    }

    private static void wholeCall() {
        Checks.sentence("14: Whether a SECTOR is WHOLE: its SORT; 0: it is not. BAD.");
        Disk x = new Disk(10);
        for (int s : new int[] {LEAST, -1, 10, MOST}) {
            Checks.due("sector " + s, x.whole(s), BAD);
        }
        x.lay(1, 250);
        x.protect(0, 1);
        x.sync();
        int[] sorts = {0, 1, 2, 3, 4, 0, 0, 0, 0, 0};
        for (int s = 0; s < 10; s++) {
            Checks.due("whole(" + s + ")", x.whole(s), sorts[s]);
        }
        x.lose(3);
        Checks.due("lost", x.whole(3), 0);
        x.poke(4, 9, 1);
        Checks.due("hurt", x.whole(4), 0);
        x.cut(0, 1);
        Checks.due("OFF", x.whole(2), 2);
        x.put(9, Disk.sector(4, 1, 1, 1));
        Checks.due("behind the log", x.whole(9), 4);
    }

    private static void listedCall() {
        Checks.sentence("15: The k-th ROW, by numbers, that is AWAY or has a BLOCK that is MISSING; NONE: none such, or OFF.");
        Disk x = new Disk(30);
        Checks.due("no row", x.listed(0), NONE);
        x.lay(1, 10);
        x.lay(1, 50);
        x.lay(1, 90, 50);
        x.lay(1, 130);
        Checks.due("all are well", x.listed(0), NONE);
        x.lose(4);
        dueListed(x, 1, 2);
        x.lose(3);
        dueListed(x, 0, 1, 2);
        x.lose(9);
        dueListed(x, 0, 1, 2, 3);
        x.cut(x.told(4), 1);
        Checks.due("OFF", x.listed(0), NONE);
        x.start();
        Checks.due("none of the rows is there at all", x.listed(0), NONE);
        x = new Disk(12);
        x.put(1, Disk.head(1, 2, 60));
        x.restart();
        for (int k = 0; k < 60; k++) {
            Checks.due("60 rows, all away", x.listed(k), k);
        }
        Checks.due("no 61st", x.listed(60), NONE);
    }

    private static void dueListed(Disk x, int... rows) {
        for (int k = 0; k < rows.length; k++) {
            Checks.due("listed(" + k + ")", x.listed(k), rows[k]);
        }
        for (int k : new int[] {LEAST, -1, rows.length, MOST}) {
            Checks.due("listed(" + k + ")", x.listed(k), NONE);
        }
    }

    private static void toldCall() {
        Checks.sentence("16: told");
        Disk x = new Disk(25);
        for (int what : new int[] {LEAST, -1, 10, 11, MOST}) {
            Checks.due("told(" + what + ")", x.told(what), BAD);
        }
        x.lay(1, 10);
        x.lay(1, 10);
        x.sync();
        x.protect(0, 1);
        x.open(3);
        x.add(1, 3);
        x.lose(7);
        x.lose(8);
        Checks.dueTold("ON", x, 1, 6, 2, 1, 1, 0, 1, 3, 2, 25);
        Checks.sentence("16: 7 how many bytes the OPEN ROW has (NONE)");
        x.end();
        Checks.due("none is open", x.told(7), NONE);
        x.open(3);
        Checks.due("no bytes", x.told(7), 0);
        Checks.sentence("16: (1 to 3: while it is OFF as they were when it went.)");
        x.cut(0, 4);
        Checks.due("ON", x.told(0), 0);
        Checks.due("NEXT", x.told(1), 8);
        Checks.due("ROWS", x.told(2), 3);
        Checks.due("GENERATION", x.told(3), 1);
        Checks.due("found ever", x.told(6), 1);
        Checks.due("none is open", x.told(7), NONE);
        // Written no more, sector 7 is lost again as it was.
        Checks.due("lost", x.told(8), 2);
        Checks.due("n", x.told(9), 25);
        for (int what : new int[] {LEAST, -1, 10, MOST}) {
            Checks.due("OFF, told(" + what + ")", x.told(what), BAD);
        }
        x.start();
        Checks.dueTold("ON again", x, 1, 5, 2, 1, 0, 0, 1, NONE, 2, 25);
    }

    private static void toldOfLostOnes() {
        Checks.sentence("16: 8 how many SECTORS are LOST");
        for (int n : new int[] {8, 60}) {
            Disk x = new Disk(n);
            for (int s = 0; s < n; s++) {
                Checks.due("lost of " + n, x.told(8), s);
                x.lose(s);
                x.lose(s);
            }
            Checks.due("all of " + n, x.told(8), n);
            x.sync();
            Checks.due("a head is written", x.told(8), n - 1);
        }
    }

    private static void toldWhileOff() {
        Checks.sentence("16: (1 to 3: while it is OFF as they were when it went.)");
        Disk x = new Disk(12);
        x.lay(1, 10);
        x.sync();
        x.lay(2, 50);
        x.cut(2, 31);
        x.lose(0);
        x.lose(1);
        x.lose(2);
        Checks.due("NEXT", x.told(1), 6);
        Checks.due("ROWS", x.told(2), 2);
        Checks.due("GENERATION, the sync was only begun", x.told(3), 1);
        x.start();
        Checks.due("NEXT", x.told(1), 2);
        Checks.due("ROWS", x.told(2), 0);
        Checks.due("GENERATION", x.told(3), 0);
        Checks.sentence("What was written since the latest SYNC (or START) is not KEPT.");
        x = new Disk(12);
        x.lay(1, 10);
        x.cut(1, 1);
        // Neither a SYNC nor a START came since, so as many as ahead of the cut were written and are not kept.
        Checks.due("OFF, not kept", x.told(4), 2);
        Checks.due("OFF, keep 3", x.cut(3, 1), BAD);
        Checks.due("OFF, keep 2", x.cut(2, 1), NO);
    }

    public static void main(String[] args) {
        newObject();
        openCall();
        addCall();
        endCall();
        protectCall();
        syncCall();
        cutCall();
        startCall();
        atCall();
        rowCall();
        loseCall();
        pokeCall();
        octetCall();
        wholeCall();
        listedCall();
        toldCall();
        toldOfLostOnes();
        toldWhileOff();
        Checks.finish();
    }
}
