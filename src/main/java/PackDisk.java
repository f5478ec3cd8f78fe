import java.util.Arrays;

/**
 * A disk of small sectors: rows of bytes as blocks, symbols that bring lost blocks back,
 * two heads, and a power that may go in the midst of writing.
 */
public final class PackDisk {
    public static final int NONE = -1, BAD = -2, NO = -3, FULL = -4, MISSING = -5;

    private static final int FEWEST_SECTORS = 8, MOST_SECTORS = 60, LOG_BEGIN = 2;
    private static final int SECTOR_SIZE = 32, CONTENT_BEGIN = 4, CONTENT_SIZE = 24, SUM_BEGIN = 28;
    private static final int SORT_HEAD = 1, SORT_BLOCK = 2, SORT_ROW = 3, SORT_SYMBOL = 4;
    private static final int MOST_ROWS = 60, MOST_KIND = 9, MOST_BYTES = 96, MOST_BLOCKS = 4;
    private static final int SYMBOL_P = 0, SYMBOL_Q = 1;
    // Four blocks and the row itself: what the end of a row may need at most.
    private static final int ROOM_FOR_A_ROW = 5;

    private final Sectors sectors;
    private final Journal journal;
    private final Draft draft;
    private final Gaps gaps;
    private final int[] openBytes;
    private final int[] places;
    private boolean on;
    private int next;
    private int rows;
    private int generation;
    private int openKind;
    private int openLength;
    private int repaired;
    private int found;

    public PackDisk(int n) {
        sectors = new Sectors(n);
        journal = new Journal();
        draft = new Draft();
        gaps = new Gaps();
        openBytes = new int[MOST_BYTES];
        places = new int[MOST_BLOCKS];
        on = true;
        next = LOG_BEGIN;
        openLength = NONE;
    }

    public int open(int kind) {
        if (kind < 0 || kind > MOST_KIND) {
            return BAD;
        }
        if (!on || isOpen()) {
            return NO;
        }
        if (sectorsLeft() < ROOM_FOR_A_ROW || rows >= MOST_ROWS) {
            return FULL;
        }
        Arrays.fill(openBytes, 0);
        openKind = kind;
        openLength = 0;
        return rows;
    }

    public int add(long bytes, int n) {
        if (n < 1 || n > 8) {
            return BAD;
        }
        if (!on || !isOpen()) {
            return NO;
        }
        if (openLength + n > MOST_BYTES) {
            return FULL;
        }
        for (int k = 0; k < n; k++) {
            openBytes[openLength + k] = (int) (bytes >>> (8 * k)) & 255;
        }
        openLength += n;
        return openLength;
    }

    public int end() {
        if (!on || !isOpen()) {
            return NO;
        }
        int blocks = blocksForLength(openLength);
        for (int k = 0; k < blocks; k++) {
            places[k] = placeOpenBlock(k);
        }
        draft.begin(SORT_ROW, openKind, rows, openLength);
        for (int k = 0; k < blocks; k++) {
            draft.setContent(k, places[k]);
        }
        writeNext();
        openLength = NONE;
        rows++;
        return rows - 1;
    }

    public int protect(int row, int n) {
        if (!isRowNumber(row) || n < 1 || n > 2) {
            return BAD;
        }
        if (!on) {
            return NO;
        }
        int sector = findRow(row);
        if (sector == NONE || countMissing(sector) > 0) {
            return NO;
        }
        if (sectorsLeft() < (isOpen() ? n + ROOM_FOR_A_ROW : n)) {
            return FULL;
        }
        int last = writeSymbol(row, sector, SYMBOL_P);
        return n == 1 ? last : writeSymbol(row, sector, SYMBOL_Q);
    }

    public int sync() {
        if (!on) {
            return NO;
        }
        generation++;
        draftHead(generation);
        sectors.store(headSector(generation), draft, SECTOR_SIZE);
        journal.clear();
        return generation;
    }

    public int cut(int keep, int tear) {
        if (tear < 1 || tear >= SECTOR_SIZE || keep < 0 || keep > journal.size()) {
            return BAD;
        }
        if (!on) {
            return NO;
        }
        if (keep == journal.size()) {
            tearHead(tear);
        } else {
            journal.undoBehind(keep, tear, sectors);
        }
        openLength = NONE;
        on = false;
        return 1;
    }

    public int start() {
        if (on) {
            return NO;
        }
        on = true;
        readHead();
        extendLog();
        countRows();
        repaired = 0;
        repairAll();
        journal.clear();
        return rows;
    }

    public int at(int row, int i) throws ArrayIndexOutOfBoundsException {
        if (!isRowNumber(row)) {
            return BAD;
        }
        int sector = on ? findRow(row) : NONE;
        if (sector == NONE) {
            return NO;
        }
        if (i < 0 || i >= lengthOfRow(sector)) {
            throw new ArrayIndexOutOfBoundsException("the row has no such byte");
        }
        int block = sectors.content(sector, i / CONTENT_SIZE);
        return isBlock(block) ? sectors.content(block, i % CONTENT_SIZE) : MISSING;
    }

    public int row(int row, int what) {
        boolean asksBlock = what >= 10 && what < 10 + MOST_BLOCKS;
        if (!isRowNumber(row) || what < 0 || what > 6 && !asksBlock) {
            return BAD;
        }
        if (!on) {
            return NO;
        }
        int sector = findRow(row);
        if (sector == NONE) {
            return NONE;
        }
        if (asksBlock) {
            int k = what - 10;
            return k < blocksOfRow(sector) ? sectors.content(sector, k) : NONE;
        }
        switch (what) {
            case 0:
                return sectors.cell(sector, 1);
            case 1:
                return lengthOfRow(sector);
            case 2:
                return sector;
            case 3:
                return findSymbol(row, SYMBOL_P);
            case 4:
                return findSymbol(row, SYMBOL_Q);
            case 5:
                return blocksOfRow(sector);
            default:
                return countMissing(sector);
        }
    }

    public int lose(int sector) {
        if (!sectors.has(sector)) {
            return BAD;
        }
        if (sectors.isLost(sector)) {
            return 0;
        }
        sectors.markLost(sector);
        return 1;
    }

    public int poke(int sector, int i, int mask) {
        if (!sectors.hasCell(sector, i) || mask < 0 || mask > 255) {
            return BAD;
        }
        sectors.flip(sector, i, mask);
        return sectors.cell(sector, i);
    }

    public int octet(int sector, int i) {
        if (!sectors.hasCell(sector, i)) {
            return BAD;
        }
        return sectors.cell(sector, i);
    }

    public int whole(int sector) {
        if (!sectors.has(sector)) {
            return BAD;
        }
        return sectors.wholeSort(sector);
    }

    public int listed(int k) {
        if (!on || k < 0) {
            return NONE;
        }
        int ahead = 0;
        for (int row = 0; row < rows; row++) {
            if (isHurt(row)) {
                if (ahead == k) {
                    return row;
                }
                ahead++;
            }
        }
        return NONE;
    }

    public int told(int what) {
        switch (what) {
            case 0:
                return on ? 1 : 0;
            case 1:
                return next;
            case 2:
                return rows;
            case 3:
                return generation;
            case 4:
                return journal.size();
            case 5:
                return repaired;
            case 6:
                return found;
            case 7:
                return openLength;
            case 8:
                return sectors.countLost();
            case 9:
                return sectors.count();
            default:
                return BAD;
        }
    }

    // ---- what the calls ask of the state

    private boolean isOpen() {
        return openLength != NONE;
    }

    private int sectorsLeft() {
        return sectors.count() - next;
    }

    private boolean isRowNumber(int row) {
        return row >= 0 && row < rows;
    }

    private boolean isInLog(int sector) {
        return sector >= LOG_BEGIN && sector < next;
    }

    private boolean isBlock(int sector) {
        return isInLog(sector) && sectors.wholeSort(sector) == SORT_BLOCK;
    }

    private boolean isHurt(int row) {
        int sector = findRow(row);
        return sector == NONE || countMissing(sector) > 0;
    }

    // ---- rows, their blocks and their symbols in the log

    private int findRow(int row) {
        for (int s = next - 1; s >= LOG_BEGIN; s--) {
            if (sectors.wholeSort(s) == SORT_ROW && sectors.cell(s, 2) == row && lengthOfRow(s) <= MOST_BYTES) {
                return s;
            }
        }
        return NONE;
    }

    private int findSymbol(int row, int which) {
        for (int s = next - 1; s >= LOG_BEGIN; s--) {
            if (sectors.wholeSort(s) == SORT_SYMBOL && sectors.cell(s, 1) == row && sectors.cell(s, 2) == which) {
                return s;
            }
        }
        return NONE;
    }

    private int findDraftedBlock() {
        for (int s = LOG_BEGIN; s < next; s++) {
            if (isBlock(s) && sectors.hasContentOf(s, draft)) {
                return s;
            }
        }
        return NONE;
    }

    private int lengthOfRow(int sector) {
        return sectors.cell(sector, 3);
    }

    private int blocksOfRow(int sector) {
        return blocksForLength(lengthOfRow(sector));
    }

    private static int blocksForLength(int length) {
        return Math.min((length + CONTENT_SIZE - 1) / CONTENT_SIZE, MOST_BLOCKS);
    }

    private int countMissing(int sector) {
        int missing = 0;
        int blocks = blocksOfRow(sector);
        for (int k = 0; k < blocks; k++) {
            if (!isBlock(sectors.content(sector, k))) {
                missing++;
            }
        }
        return missing;
    }

    /** Byte i of a symbol over those blocks of a row that are there. */
    private int symbolByte(int sector, int which, int i) {
        int sum = 0;
        for (int k = blocksOfRow(sector) - 1; k >= 0; k--) {
            int block = sectors.content(sector, k);
            int value = isBlock(block) ? sectors.content(block, i) : 0;
            sum = (which == SYMBOL_Q ? Field.twice(sum) : sum) ^ value;
        }
        return sum;
    }

    // ---- writing

    private int placeOpenBlock(int k) {
        draft.begin(SORT_BLOCK, 0, 0, 0);
        for (int i = 0; i < CONTENT_SIZE; i++) {
            int from = k * CONTENT_SIZE + i;
            draft.setContent(i, from >= 0 && from < MOST_BYTES ? openBytes[from] : 0);
        }
        int sector = findDraftedBlock();
        if (sector == NONE) {
            return writeNext();
        }
        found++;
        return sector;
    }

    private int writeSymbol(int row, int sector, int which) {
        draft.begin(SORT_SYMBOL, row, which, 0);
        for (int i = 0; i < CONTENT_SIZE; i++) {
            draft.setContent(i, symbolByte(sector, which, i));
        }
        return writeNext();
    }

    private int writeNext() {
        if (!sectors.has(next)) {
            return NONE;
        }
        draft.seal();
        journal.note(next, sectors);
        sectors.store(next, draft, SECTOR_SIZE);
        next++;
        return next - 1;
    }

    private static int headSector(int generation) {
        return generation & 1;
    }

    private void draftHead(int number) {
        draft.begin(SORT_HEAD, 0, 0, 0);
        for (int k = 0; k < 4; k++) {
            draft.setContent(k, number >>> (24 - 8 * k));
        }
        draft.setContent(4, next);
        draft.setContent(5, rows);
        draft.seal();
    }

    private void tearHead(int tear) {
        // The sync never came to its end, so the generation itself stays as it was.
        int number = generation + 1;
        draftHead(number);
        sectors.store(headSector(number), draft, tear);
    }

    // ---- starting

    private boolean isHead(int sector) {
        int nextTold = sectors.content(sector, 4);
        return sectors.wholeSort(sector) == SORT_HEAD && nextTold >= LOG_BEGIN && nextTold <= sectors.count()
            && sectors.content(sector, 5) <= MOST_ROWS;
    }

    private int generationIn(int sector) {
        int number = 0;
        for (int k = 0; k < 4; k++) {
            number = number << 8 | sectors.content(sector, k);
        }
        return number;
    }

    private int chooseHead() {
        if (!isHead(0)) {
            return isHead(1) ? 1 : NONE;
        }
        return isHead(1) && generationIn(1) > generationIn(0) ? 1 : 0;
    }

    private void readHead() {
        int head = chooseHead();
        generation = head == NONE ? 0 : generationIn(head);
        next = head == NONE ? LOG_BEGIN : sectors.content(head, 4);
        rows = head == NONE ? 0 : sectors.content(head, 5);
    }

    private void extendLog() {
        int count = sectors.count();
        while (next < count && sectors.wholeSort(next) >= SORT_BLOCK) {
            next++;
        }
    }

    private void countRows() {
        for (int row = MOST_ROWS - 1; row >= rows; row--) {
            if (findRow(row) != NONE) {
                rows = row + 1;
                return;
            }
        }
    }

    private void repairAll() {
        // A round that brings something makes at least one more sector a whole block.
        for (int round = 0; round <= MOST_SECTORS; round++) {
            int before = repaired;
            for (int row = 0; row < rows; row++) {
                repairRow(row);
            }
            if (repaired == before) {
                return;
            }
        }
    }

    private void repairRow(int row) {
        int sector = findRow(row);
        if (sector == NONE || !collectGaps(sector)) {
            return;
        }
        int p = findSymbol(row, SYMBOL_P);
        int q = findSymbol(row, SYMBOL_Q);
        if (!gaps.prepare(p != NONE, q != NONE)) {
            return;
        }
        for (int i = 0; i < CONTENT_SIZE; i++) {
            int restP = p == NONE ? 0 : sectors.content(p, i) ^ symbolByte(sector, SYMBOL_P, i);
            int restQ = q == NONE ? 0 : sectors.content(q, i) ^ symbolByte(sector, SYMBOL_Q, i);
            if (!gaps.solve(i, restP, restQ)) {
                return;
            }
        }
        fillGaps();
    }

    /** Whether blocks of a row are missing, all of them in the log. */
    private boolean collectGaps(int sector) {
        gaps.clear();
        int factor = 1;
        int blocks = blocksOfRow(sector);
        for (int k = 0; k < blocks; k++) {
            int block = sectors.content(sector, k);
            if (!isInLog(block)) {
                return false;
            }
            if (!isBlock(block)) {
                gaps.note(block, factor);
            }
            factor = Field.twice(factor);
        }
        return gaps.size() > 0;
    }

    private void fillGaps() {
        int size = gaps.size();
        for (int g = 0; g < size; g++) {
            draft.begin(SORT_BLOCK, 0, 0, 0);
            for (int i = 0; i < CONTENT_SIZE; i++) {
                draft.setContent(i, gaps.filling(g, i));
            }
            draft.seal();
            sectors.store(gaps.sectorOf(g), draft, SECTOR_SIZE);
            repaired++;
        }
    }

    /** The sum of the bytes ahead of a sector's sum; the sector's cells begin at an index. */
    private static int sumOf(int[] cells, int begin) {
        int s = 0;
        if (begin < 0 || begin > cells.length - SECTOR_SIZE) {
            return s;
        }
        for (int i = 0; i < SUM_BEGIN; i++) {
            int x = s ^ cells[begin + i];
            s = (x << 7 | x >>> 25) * 0x1B873593;
        }
        return s;
    }

    /** A sector's bytes, made ready before they come to the disk. */
    private static final class Draft {
        private final int[] bytes = new int[SECTOR_SIZE];

        void begin(int sort, int first, int second, int third) {
            Arrays.fill(bytes, 0);
            bytes[0] = sort;
            bytes[1] = first;
            bytes[2] = second;
            bytes[3] = third;
        }

        void setContent(int i, int value) {
            if (i >= 0 && i < CONTENT_SIZE) {
                bytes[CONTENT_BEGIN + i] = value & 255;
            }
        }

        int cell(int i) {
            return i >= 0 && i < SECTOR_SIZE ? bytes[i] : 0;
        }

        void seal() {
            int sum = sumOf(bytes, 0);
            for (int k = 0; k < 4; k++) {
                bytes[SUM_BEGIN + k] = sum >>> (24 - 8 * k) & 255;
            }
        }
    }

    /** The sectors as they stand on the disk. */
    private static final class Sectors {
        private final int count;
        private final int[] cells;
        private final boolean[] lost;
        // The sort of each whole sector, 0 for others: looked up far more often than sectors change.
        private final int[] sorts;

        Sectors(int n) {
            count = Math.max(FEWEST_SECTORS, Math.min(n, MOST_SECTORS));
            cells = new int[count * SECTOR_SIZE];
            lost = new boolean[count];
            sorts = new int[count];
        }

        int count() {
            return count;
        }

        boolean has(int sector) {
            return sector >= 0 && sector < count;
        }

        boolean hasCell(int sector, int i) {
            return sector >= 0 && sector < count && i >= 0 && i < SECTOR_SIZE;
        }

        int cell(int sector, int i) {
            boolean there = sector >= 0 && sector < count && i >= 0 && i < SECTOR_SIZE;
            return there ? cells[sector * SECTOR_SIZE + i] : 0;
        }

        int content(int sector, int i) {
            return i >= 0 && i < CONTENT_SIZE ? cell(sector, CONTENT_BEGIN + i) : 0;
        }

        int wholeSort(int sector) {
            return has(sector) ? sorts[sector] : 0;
        }

        boolean isLost(int sector) {
            return has(sector) && lost[sector];
        }

        int countLost() {
            int sum = 0;
            for (int s = 0; s < count; s++) {
                if (lost[s]) {
                    sum++;
                }
            }
            return sum;
        }

        boolean hasContentOf(int sector, Draft draft) {
            for (int i = CONTENT_BEGIN; i < SUM_BEGIN; i++) {
                if (cell(sector, i) != draft.cell(i)) {
                    return false;
                }
            }
            return true;
        }

        void markLost(int sector) {
            if (has(sector)) {
                lost[sector] = true;
                sorts[sector] = 0;
            }
        }

        void flip(int sector, int i, int mask) {
            if (hasCell(sector, i)) {
                cells[sector * SECTOR_SIZE + i] ^= mask & 255;
                judge(sector);
            }
        }

        /** The first bytes of a draft come to a sector, which is lost no more. */
        void store(int sector, Draft draft, int length) {
            if (!has(sector)) {
                return;
            }
            for (int i = 0; i < length && i < SECTOR_SIZE; i++) {
                cells[sector * SECTOR_SIZE + i] = draft.cell(i);
            }
            lost[sector] = false;
            judge(sector);
        }

        void copyTo(int sector, int[] target, int begin) {
            if (has(sector) && begin >= 0 && begin <= target.length - SECTOR_SIZE) {
                System.arraycopy(cells, sector * SECTOR_SIZE, target, begin, SECTOR_SIZE);
            }
        }

        /** The bytes from an index on are again as they were kept elsewhere. */
        void takeBack(int sector, int from, int[] source, int begin, boolean wasLost) {
            if (!hasCell(sector, from) || begin < 0 || begin > source.length - SECTOR_SIZE) {
                return;
            }
            System.arraycopy(source, begin + from, cells, sector * SECTOR_SIZE + from, SECTOR_SIZE - from);
            lost[sector] = wasLost;
            judge(sector);
        }

        private void judge(int sector) {
            if (!has(sector)) {
                return;
            }
            int sum = 0;
            for (int k = 0; k < 4; k++) {
                sum = sum << 8 | cell(sector, SUM_BEGIN + k);
            }
            int sort = cell(sector, 0);
            boolean fits = sort >= SORT_HEAD && sort <= SORT_SYMBOL && sum == sumOf(cells, sector * SECTOR_SIZE);
            sorts[sector] = fits && !lost[sector] ? sort : 0;
        }
    }

    /** What was written and is not kept, in order, each with what stood there ahead of it. */
    private static final class Journal {
        private final int[] written = new int[MOST_SECTORS];
        private final int[] cells = new int[MOST_SECTORS * SECTOR_SIZE];
        private final boolean[] lost = new boolean[MOST_SECTORS];
        private int size;

        int size() {
            return size;
        }

        void clear() {
            size = 0;
        }

        void note(int sector, Sectors sectors) {
            if (size >= MOST_SECTORS) {
                return;
            }
            written[size] = sector;
            lost[size] = sectors.isLost(sector);
            sectors.copyTo(sector, cells, size * SECTOR_SIZE);
            size++;
        }

        /** The first ones stay, the one behind them is torn, the others never were. */
        void undoBehind(int keep, int tear, Sectors sectors) {
            for (int k = size - 1; k > keep && k >= 0; k--) {
                sectors.takeBack(written[k], 0, cells, k * SECTOR_SIZE, lost[k]);
            }
            if (keep >= 0 && keep < size) {
                sectors.takeBack(written[keep], tear, cells, keep * SECTOR_SIZE, false);
            }
        }
    }

    /** Sums and products of bytes, as the symbols use them. */
    private static final class Field {
        static int twice(int value) {
            int doubled = value << 1;
            return doubled > 255 ? doubled ^ 0x11D : doubled;
        }

        static int times(int a, int b) {
            int product = 0;
            for (int bit = 7; bit >= 0; bit--) {
                product = twice(product) ^ ((b >> bit & 1) == 1 ? a : 0);
            }
            return product;
        }

        /** What gives 1 with a value; 0 for 0, which has none. */
        static int inverse(int value) {
            for (int x = 1; x < 256; x++) {
                if (times(value, x) == 1) {
                    return x;
                }
            }
            return 0;
        }
    }

    /** The sectors that a row misses, as the unknowns of two equations: its P and its Q. */
    private static final class Gaps {
        // Two equations never leave just one way for more unknowns than two.
        private static final int MOST_SOLVED = 2;

        private final int[] unknowns = new int[MOST_BLOCKS];
        private final int[] inP = new int[MOST_BLOCKS];
        private final int[] inQ = new int[MOST_BLOCKS];
        private final int[] fillings = new int[MOST_SOLVED * CONTENT_SIZE];
        private int size;
        private int inverse;

        void clear() {
            size = 0;
            Arrays.fill(inP, 0);
            Arrays.fill(inQ, 0);
        }

        int size() {
            return size;
        }

        int sectorOf(int g) {
            return g >= 0 && g < size && g < MOST_BLOCKS ? unknowns[g] : NONE;
        }

        int filling(int g, int i) {
            boolean there = g >= 0 && g < MOST_SOLVED && i >= 0 && i < CONTENT_SIZE;
            return there ? fillings[g * CONTENT_SIZE + i] : 0;
        }

        /** A block of the row is missing; a sector that several blocks share is one unknown. */
        void note(int sector, int factor) {
            int g = 0;
            while (g < size && g < MOST_BLOCKS && unknowns[g] != sector) {
                g++;
            }
            if (g >= MOST_BLOCKS) {
                return;
            }
            if (g == size) {
                unknowns[g] = sector;
                size++;
            }
            inP[g] ^= 1;
            inQ[g] ^= factor;
        }

        /** Whether the symbols that are there leave one way at most. */
        boolean prepare(boolean hasP, boolean hasQ) {
            if (size < 1 || size > MOST_SOLVED) {
                return false;
            }
            // A symbol that is not there asks nothing: an equation of zeros.
            if (!hasP) {
                Arrays.fill(inP, 0);
            }
            if (!hasQ) {
                Arrays.fill(inQ, 0);
            }
            int pivot = size == 2
                ? Field.times(inP[0], inQ[1]) ^ Field.times(inP[1], inQ[0])
                : inP[0] != 0 ? inP[0] : inQ[0];
            inverse = Field.inverse(pivot);
            return inverse != 0;
        }

        /** Fills byte i of the unknowns; false if no way fits both symbols. */
        boolean solve(int i, int restP, int restQ) {
            if (i < 0 || i >= CONTENT_SIZE) {
                return false;
            }
            if (size == 2) {
                int first = Field.times(restP, inQ[1]) ^ Field.times(restQ, inP[1]);
                int second = Field.times(restQ, inP[0]) ^ Field.times(restP, inQ[0]);
                fillings[i] = Field.times(first, inverse);
                fillings[CONTENT_SIZE + i] = Field.times(second, inverse);
                return true;
            }
            int x = Field.times(inP[0] != 0 ? restP : restQ, inverse);
            fillings[i] = x;
            return Field.times(inP[0], x) == restP && Field.times(inQ[0], x) == restQ;
        }
    }
}
