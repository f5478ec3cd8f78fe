/**
 * A PackDisk that counts its calls. What an object answers behind its 512th call is free,
 * so a test that would ask for it is itself at fault.
 */
final class Disk {
    static final int NONE = -1, BAD = -2, NO = -3, FULL = -4, MISSING = -5;
    /** Stands for the exception that at throws. */
    static final int THROWN = 9999;
    static final int MOST_CALLS = 512;
    static final int LEAST = Integer.MIN_VALUE, MOST = Integer.MAX_VALUE;

    private final PackDisk disk;
    private int calls;

    Disk(int n) {
        disk = new PackDisk(n);
    }

    int callsLeft() {
        return MOST_CALLS - calls;
    }

    private PackDisk counted() {
        calls++;
        if (calls > MOST_CALLS) {
            throw new IllegalStateException("this test makes more calls on one object than the document promises");
        }
        return disk;
    }

    int open(int kind) {
        return counted().open(kind);
    }

    int add(long bytes, int n) {
        return counted().add(bytes, n);
    }

    int end() {
        return counted().end();
    }

    int protect(int row, int n) {
        return counted().protect(row, n);
    }

    int sync() {
        return counted().sync();
    }

    int cut(int keep, int tear) {
        return counted().cut(keep, tear);
    }

    int start() {
        return counted().start();
    }

    int at(int row, int i) {
        PackDisk asked = counted();
        try {
            return asked.at(row, i);
        } catch (ArrayIndexOutOfBoundsException e) {
            return e.getClass() == ArrayIndexOutOfBoundsException.class ? THROWN : THROWN + 1;
        }
    }

    int row(int row, int what) {
        return counted().row(row, what);
    }

    int lose(int sector) {
        return counted().lose(sector);
    }

    int poke(int sector, int i, int mask) {
        return counted().poke(sector, i, mask);
    }

    int octet(int sector, int i) {
        return counted().octet(sector, i);
    }

    int whole(int sector) {
        return counted().whole(sector);
    }

    int listed(int k) {
        return counted().listed(k);
    }

    int told(int what) {
        return counted().told(what);
    }

    // ---- calls that tests often make together

    /** Some bytes come to the open row: start, start + 1, .. */
    void addBytes(int start, int count) {
        for (int done = 0; done < count; done += 8) {
            int n = Math.min(8, count - done);
            long bytes = 0;
            for (int k = n - 1; k >= 0; k--) {
                bytes = bytes << 8 | (start + done + k & 255);
            }
            add(bytes, n);
        }
    }

    /** A row of full blocks; block k has starts[k], starts[k] + 1, .. as its bytes. */
    int lay(int kind, int... starts) {
        open(kind);
        for (int start : starts) {
            addBytes(start, 24);
        }
        return end();
    }

    /** The power goes, all that was written stays (but the next head is torn), and comes again. */
    int restart() {
        cut(told(4), 1);
        return start();
    }

    /** A sector that still has nothing but 0s gets these bytes. */
    void put(int sector, int[] bytes) {
        for (int i = 0; i < 32; i++) {
            if (bytes[i] != 0) {
                poke(sector, i, bytes[i]);
            }
        }
    }

    /** A sector gets these bytes, whatever it had. */
    void forge(int sector, int[] bytes) {
        for (int i = 0; i < 32; i++) {
            int mask = octet(sector, i) ^ bytes[i];
            if (mask != 0) {
                poke(sector, i, mask);
            }
        }
    }

    int[] bytes(int sector) {
        int[] all = new int[32];
        for (int i = 0; i < 32; i++) {
            all[i] = octet(sector, i);
        }
        return all;
    }

    /** The bytes of a sector as the document tells them, with the sum behind. */
    static int[] sector(int sort, int first, int second, int third, int... content) {
        int[] all = new int[32];
        all[0] = sort;
        all[1] = first;
        all[2] = second;
        all[3] = third;
        System.arraycopy(content, 0, all, 4, content.length);
        long s = 0;
        for (int i = 0; i < 28; i++) {
            long x = s ^ all[i];
            s = (x << 7 & 0xFFFFFFFFL | x >> 25) * 0x1B873593L & 0xFFFFFFFFL;
        }
        for (int k = 0; k < 4; k++) {
            all[28 + k] = (int) (s >> (24 - 8 * k) & 255);
        }
        return all;
    }

    /** The bytes of a head. */
    static int[] head(int generation, int next, int rows) {
        return sector(1, 0, 0, 0, generation >>> 24, generation >> 16 & 255, generation >> 8 & 255, generation & 255,
            next, rows);
    }

    /** 24 bytes: start, start + 1, .. */
    static int[] counting(int start) {
        int[] all = new int[24];
        for (int i = 0; i < 24; i++) {
            all[i] = start + i & 255;
        }
        return all;
    }
}
