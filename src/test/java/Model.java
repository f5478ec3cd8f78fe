import java.util.ArrayList;
import java.util.List;

/** The document told a second time, slowly and plainly, to hold PackDisk against. */
final class Model {
    static final int NONE = -1, BAD = -2, NO = -3, FULL = -4, MISSING = -5;

    /** One write that is not kept. */
    private static final class Written {
        final int sector;
        final byte[] before;
        final boolean lostBefore;

        Written(int sector, byte[] before, boolean lostBefore) {
            this.sector = sector;
            this.before = before;
            this.lostBefore = lostBefore;
        }
    }

    private final int n;
    private final byte[][] disk;
    private final boolean[] lost;
    private List<Written> notKept = new ArrayList<>();
    private List<Integer> open = null;
    private int kind, next = 2, rows, generation, repaired, found;
    private boolean on = true;

    Model(int n) {
        this.n = n < 8 ? 8 : n > 60 ? 60 : n;
        disk = new byte[this.n][32];
        lost = new boolean[this.n];
    }

    static int sum(byte[] b) {
        int s = 0;
        for (int i = 0; i < 28; i++) s = Integer.rotateLeft(s ^ Byte.toUnsignedInt(b[i]), 7) * 0x1B873593;
        return s;
    }

    private static byte[] make(int sort, int a, int b, int c, byte[] content) {
        byte[] x = new byte[32];
        x[0] = (byte) sort; x[1] = (byte) a; x[2] = (byte) b; x[3] = (byte) c;
        System.arraycopy(content, 0, x, 4, 24);
        int s = sum(x);
        x[28] = (byte) (s >> 24); x[29] = (byte) (s >> 16); x[30] = (byte) (s >> 8); x[31] = (byte) s;
        return x;
    }

    private int b(int s, int i) { return disk[s][i] & 255; }

    private boolean isWhole(int s) {
        byte[] x = disk[s];
        int told = b(s, 28) << 24 | b(s, 29) << 16 | b(s, 30) << 8 | b(s, 31);
        return !lost[s] && x[0] >= 1 && x[0] <= 4 && told == sum(x);
    }

    private boolean is(int s, int sort) { return isWhole(s) && disk[s][0] == sort; }

    private boolean block(int s) { return s >= 2 && s < next && is(s, 2); }

    private int write(byte[] x) {
        notKept.add(new Written(next, disk[next].clone(), lost[next]));
        disk[next] = x;
        lost[next] = false;
        return next++;
    }

    private int place(int row) {
        int at = NONE;
        for (int s = 2; s < next; s++) if (is(s, 3) && b(s, 2) == row && b(s, 3) <= 96) at = s;
        return at;
    }

    private int symbol(int row, int q) {
        int at = NONE;
        for (int s = 2; s < next; s++) if (is(s, 4) && b(s, 1) == row && b(s, 2) == q) at = s;
        return at;
    }

    private int[] blocks(int s) {
        int[] all = new int[(b(s, 3) + 23) / 24];
        for (int k = 0; k < all.length; k++) all[k] = b(s, 4 + k);
        return all;
    }

    private int missing(int s) {
        int m = 0;
        for (int x : blocks(s)) if (!block(x)) m++;
        return m;
    }

    static int scaled(int v, int twos) {
        for (int t = 0; t < twos; t++) v = v * 2 > 255 ? v * 2 ^ 0x11D : v * 2;
        return v;
    }

    int open(int kind) {
        if (kind < 0 || kind > 9) return BAD;
        if (!on || open != null) return NO;
        if (n - next < 5 || rows == 60) return FULL;
        this.kind = kind;
        open = new ArrayList<>();
        return rows;
    }

    int add(long bytes, int n) {
        if (n < 1 || n > 8) return BAD;
        if (!on || open == null) return NO;
        if (open.size() + n > 96) return FULL;
        for (int k = 0; k < n; k++, bytes >>= 8) open.add((int) (bytes & 255));
        return open.size();
    }

    int end() {
        if (!on || open == null) return NO;
        byte[] told = new byte[24];
        for (int k = 0; k * 24 < open.size(); k++) {
            byte[] content = new byte[24];
            for (int i = 0; i < 24 && k * 24 + i < open.size(); i++) content[i] = (byte) (int) open.get(k * 24 + i);
            byte[] x = make(2, 0, 0, 0, content);
            int at = NONE;
            for (int s = next - 1; s >= 2; s--) {
                boolean same = is(s, 2);
                for (int i = 4; i < 28; i++) same &= disk[s][i] == x[i];
                if (same) at = s;
            }
            if (at != NONE) found++;
            told[k] = (byte) (at == NONE ? write(x) : at);
        }
        write(make(3, kind, rows, open.size(), told));
        open = null;
        return rows++;
    }

    int protect(int row, int n) {
        if (row < 0 || row >= rows || n != 1 && n != 2) return BAD;
        if (!on || place(row) == NONE || missing(place(row)) > 0) return NO;
        if (this.n - next < n + (open == null ? 0 : 5)) return FULL;
        int[] all = blocks(place(row));
        int last = NONE;
        for (int q = 0; q < n; q++) {
            byte[] content = new byte[24];
            for (int i = 0; i < 24; i++)
                for (int k = 0; k < all.length; k++) content[i] ^= (byte) scaled(b(all[k], 4 + i), q * k);
            last = write(make(4, row, q, 0, content));
        }
        return last;
    }

    private byte[] head(int generation) {
        byte[] c = new byte[24];
        for (int k = 0; k < 4; k++) c[k] = (byte) (generation >> (24 - 8 * k));
        c[4] = (byte) next;
        c[5] = (byte) rows;
        return make(1, 0, 0, 0, c);
    }

    int sync() {
        if (!on) return NO;
        generation++;
        int s = generation % 2 == 0 ? 0 : 1;
        disk[s] = head(generation);
        lost[s] = false;
        notKept = new ArrayList<>();
        return generation;
    }

    int cut(int keep, int tear) {
        if (tear < 1 || tear > 31 || keep < 0 || keep > notKept.size()) return BAD;
        if (!on) return NO;
        if (keep == notKept.size()) {
            int s = (generation + 1) % 2 == 0 ? 0 : 1;
            System.arraycopy(head(generation + 1), 0, disk[s], 0, tear);
            lost[s] = false;
        }
        for (int k = keep; k < notKept.size(); k++) {
            Written w = notKept.get(k);
            byte[] x = w.before.clone();
            if (k == keep) System.arraycopy(disk[w.sector], 0, x, 0, tear);
            disk[w.sector] = x;
            lost[w.sector] = k != keep && w.lostBefore;
        }
        open = null;
        on = false;
        return 1;
    }

    int start() {
        if (on) return NO;
        on = true;
        generation = 0; next = 2; rows = 0;
        boolean any = false;
        for (int s = 0; s < 2; s++) {
            if (!is(s, 1) || b(s, 8) < 2 || b(s, 8) > n || b(s, 9) > 60) continue;
            int g = b(s, 4) << 24 | b(s, 5) << 16 | b(s, 6) << 8 | b(s, 7);
            if (any && g <= generation) continue;
            any = true;
            generation = g; next = b(s, 8); rows = b(s, 9);
        }
        while (next < n && isWhole(next) && disk[next][0] != 1) next++;
        for (int r = 0; r < 60; r++) if (place(r) != NONE) rows = Math.max(rows, r + 1);
        repaired = 0;
        int before;
        do {
            before = repaired;
            for (int r = 0; r < rows; r++) if (place(r) != NONE) repair(r);
        } while (repaired > before);
        notKept = new ArrayList<>();
        return rows;
    }

    private void repair(int row) {
        int[] all = blocks(place(row));
        List<Integer> gaps = new ArrayList<>();
        for (int s : all) {
            if (s < 2 || s >= next) return;
            if (!block(s) && !gaps.contains(s)) gaps.add(s);
        }
        // Two equations leave none or many ways for three unknowns: no need to try them all.
        if (gaps.isEmpty() || gaps.size() > 2) return;
        int[] symbols = {symbol(row, 0), symbol(row, 1)};
        byte[][] fill = new byte[2][24];
        for (int i = 0; i < 24; i++) {
            int ways = 0;
            for (int x = 0; x < 256; x++) {
                for (int y = 0; y < (gaps.size() == 2 ? 256 : 1); y++) {
                    if (!fits(all, gaps, symbols, i, x, y)) continue;
                    ways++;
                    fill[0][i] = (byte) x;
                    fill[1][i] = (byte) y;
                }
                if (ways > 1) return;
            }
            if (ways == 0) return;
        }
        for (int g = 0; g < gaps.size(); g++) {
            disk[gaps.get(g)] = make(2, 0, 0, 0, fill[g]);
            lost[gaps.get(g)] = false;
            repaired++;
        }
    }

    private boolean fits(int[] all, List<Integer> gaps, int[] symbols, int i, int x, int y) {
        for (int q = 0; q < 2; q++) {
            if (symbols[q] == NONE) continue;
            int sum = 0;
            for (int k = 0; k < all.length; k++) {
                int g = gaps.indexOf(all[k]);
                sum ^= scaled(g == 0 ? x : g == 1 ? y : b(all[k], 4 + i), q * k);
            }
            if (sum != b(symbols[q], 4 + i)) return false;
        }
        return true;
    }

    int at(int row, int i) {
        if (row < 0 || row >= rows) return BAD;
        if (!on || place(row) == NONE) return NO;
        int s = place(row);
        if (i < 0 || i >= b(s, 3)) throw new ArrayIndexOutOfBoundsException();
        int x = blocks(s)[i / 24];
        return block(x) ? b(x, 4 + i % 24) : MISSING;
    }

    int row(int row, int what) {
        if (row < 0 || row >= rows || what < 0 || what > 13 || what > 6 && what < 10) return BAD;
        if (!on) return NO;
        int s = place(row);
        if (s == NONE) return NONE;
        if (what >= 10) return what - 10 < blocks(s).length ? blocks(s)[what - 10] : NONE;
        return new int[] {b(s, 1), b(s, 3), s, symbol(row, 0), symbol(row, 1), blocks(s).length, missing(s)}[what];
    }

    int lose(int sector) {
        if (sector < 0 || sector >= n) return BAD;
        int answer = lost[sector] ? 0 : 1;
        lost[sector] = true;
        return answer;
    }

    int poke(int sector, int i, int mask) {
        if (sector < 0 || sector >= n || i < 0 || i > 31 || mask < 0 || mask > 255) return BAD;
        disk[sector][i] ^= (byte) mask;
        return b(sector, i);
    }

    int octet(int sector, int i) {
        return sector < 0 || sector >= n || i < 0 || i > 31 ? BAD : b(sector, i);
    }

    int whole(int sector) {
        if (sector < 0 || sector >= n) return BAD;
        return isWhole(sector) ? disk[sector][0] : 0;
    }

    int listed(int k) {
        List<Integer> hurt = new ArrayList<>();
        for (int r = 0; on && r < rows; r++) if (place(r) == NONE || missing(place(r)) > 0) hurt.add(r);
        return k >= 0 && k < hurt.size() ? hurt.get(k) : NONE;
    }

    int told(int what) {
        if (what < 0 || what > 9) return BAD;
        int lostOnes = 0;
        for (boolean l : lost) if (l) lostOnes++;
        return new int[] {on ? 1 : 0, next, rows, generation, notKept.size(), repaired, found,
            open == null ? NONE : open.size(), lostOnes, n}[what];
    }
}
