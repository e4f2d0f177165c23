import java.util.Arrays;

/** Blocks of 256 bytes that are kept packed in slots of one store of bytes. */
public final class PackedSlots {
    public static final int NONE = -1;
    public static final int UNKNOWN = -11, OUTSIDE = -12, ROOM = -14;

    private static final int BLOCKS = 32;
    private static final int SIZE = 256;
    private static final int STORE_MOST = 4096;
    private static final int TAPE_MOST = 600;

    // The kinds of a block, numbered as slot(block, 0) answers them.
    private static final int FRESH = 0, SAME = 1, PACKED = 2, RAW = 3;

    private static final int LACKING = 1, BAD_OFFSET = 2, TOO_MANY = 3, TOO_FEW = 4;

    // What a token's half can tell at most by itself, and what a further byte can.
    private static final int HALF_FULL = 15, BYTE_FULL = 255;
    private static final int MATCH_LEAST = 4;

    private final int[] buffer = new int[SIZE];
    private final int[] kinds = new int[BLOCKS];
    private final int[] sameBytes = new int[BLOCKS];
    private final Store store;
    private final Packer packer = new Packer();
    private final Reader reader = new Reader();
    private final int[] tape = new int[TAPE_MOST];
    private int taped = 0;
    private int toldPlace = NONE;

    public PackedSlots(int capacity) {
        store = new Store(Math.max(0, Math.min(STORE_MOST, capacity)));
    }

    public int fill(int at, int w) {
        if (!liesInBuffer(at, 4)) {
            return OUTSIDE;
        }
        putHighestFirst(w, 4, buffer, at);
        return 1;
    }

    public int run(int at, int n, int b) {
        if (!liesInBuffer(at, n)) {
            return OUTSIDE;
        }
        for (int i = at; i < at + n; i++) {
            buffer[i] = b & 255;
        }
        return 1;
    }

    public int copy(int to, int from, int n) {
        if (!liesInBuffer(to, n) || !liesInBuffer(from, n)) {
            return OUTSIDE;
        }
        // Byte by byte: a byte that was just copied may be copied again.
        for (int k = 0; k < n; k++) {
            buffer[to + k] = buffer[from + k];
        }
        return 1;
    }

    public int octet(int i) {
        return i >= 0 && i < SIZE ? buffer[i] : NONE;
    }

    public int write(int block) {
        if (!isBlock(block)) {
            return UNKNOWN;
        }
        if (bufferIsOneByte()) {
            store.release(block);
            kinds[block] = SAME;
            sameBytes[block] = buffer[0];
            return 0;
        }
        int packed = packer.pack(buffer);
        return packed < SIZE
            ? keep(block, PACKED, packer.out, packed)
            : keep(block, RAW, buffer, SIZE);
    }

    public int read(int block) {
        if (!isBlock(block)) {
            return UNKNOWN;
        }
        if (kinds[block] == PACKED) {
            return unpack(block);
        }
        if (kinds[block] == RAW) {
            System.arraycopy(store.bytes, store.starts[block], buffer, 0, SIZE);
        } else {
            Arrays.fill(buffer, kinds[block] == SAME ? sameBytes[block] : 0);
        }
        return 1;
    }

    public int trim(int block) {
        if (!isBlock(block)) {
            return UNKNOWN;
        }
        kinds[block] = FRESH;
        return store.release(block);
    }

    public int slot(int block, int what) {
        if (!isBlock(block)) {
            return UNKNOWN;
        }
        switch (what) {
            case 0:
                return kinds[block];
            case 1:
                return store.sizes[block];
            case 2:
                return store.starts[block];
            default:
                return OUTSIDE;
        }
    }

    public int stored(int i) {
        return store.has(i) ? store.bytes[i] : NONE;
    }

    public int alter(int i, int mask) {
        if (!store.has(i)) {
            return OUTSIDE;
        }
        store.bytes[i] ^= mask & 255;
        return 1;
    }

    public int compact() {
        return store.putTogether();
    }

    public int free(int what) {
        switch (what) {
            case 0:
                return store.freeBytes();
            case 1:
                return store.longestGap();
            case 2:
                return store.freeRows();
            default:
                return OUTSIDE;
        }
    }

    public int type(int v, int n) {
        if (n < 1 || n > 4) {
            return OUTSIDE;
        }
        if (n > TAPE_MOST - taped) {
            return ROOM;
        }
        putHighestFirst(v, n, tape, taped);
        taped += n;
        return taped;
    }

    public int decode() {
        int answer = reader.unpack(tape, 0, taped);
        taped = 0;
        toldPlace = reader.errorPlace;
        if (answer > 0) {
            System.arraycopy(reader.out, 0, buffer, 0, answer);
        }
        return answer;
    }

    public int place() {
        return toldPlace;
    }

    private static boolean isBlock(int block) {
        return block >= 0 && block < BLOCKS;
    }

    private static boolean liesInBuffer(int at, int n) {
        return at >= 0 && at < SIZE && n >= 1 && n <= SIZE - at;
    }

    private static void putHighestFirst(int v, int n, int[] row, int at) {
        for (int k = 0; k < n; k++) {
            row[at + k] = (v >>> (8 * (n - 1 - k))) & 255;
        }
    }

    private boolean bufferIsOneByte() {
        for (int i = 1; i < SIZE; i++) {
            if (buffer[i] != buffer[0]) {
                return false;
            }
        }
        return true;
    }

    private int keep(int block, int kind, int[] bytes, int n) {
        if (!store.put(block, bytes, n)) {
            return ROOM;
        }
        kinds[block] = kind;
        return n;
    }

    private int unpack(int block) {
        int answer = reader.unpack(store.bytes, store.starts[block], store.sizes[block]);
        if (answer < 0) {
            return answer;
        }
        if (answer < SIZE) {
            return -TOO_FEW;
        }
        System.arraycopy(reader.out, 0, buffer, 0, SIZE);
        return 1;
    }

    /** The row of bytes, and which parts of it are slots. */
    private static final class Store {
        final int[] bytes;
        final int[] starts = new int[BLOCKS];
        final int[] sizes = new int[BLOCKS];

        // The blocks that have slots, in the order of their places.
        private final int[] order = new int[BLOCKS];
        private int slots = 0;

        Store(int capacity) {
            bytes = new int[capacity];
            Arrays.fill(starts, NONE);
        }

        boolean has(int i) {
            return i >= 0 && i < bytes.length;
        }

        /** Gives a block a new slot in place of its old one; false, with nothing changed, if there is no room. */
        boolean put(int block, int[] from, int n) {
            if (n > freeBytes() + sizes[block]) {
                return false;
            }
            release(block);
            int gap = firstGapOf(n);
            if (gap == NONE) {
                putTogether();
                gap = slots;
            }
            insert(gap, block, n);
            System.arraycopy(from, 0, bytes, starts[block], n);
            return true;
        }

        /** Answers how many bytes the slot had, 0 for none. */
        int release(int block) {
            int had = sizes[block];
            if (had > 0) {
                removeFromOrder(block);
                starts[block] = NONE;
                sizes[block] = 0;
            }
            return had;
        }

        /** Answers how many bytes lie in slots that were moved. */
        int putTogether() {
            int moved = 0;
            int to = 0;
            // From the lowest on, so that no slot is overwritten before it is moved.
            for (int k = 0; k < slots; k++) {
                int block = order[k];
                if (starts[block] != to) {
                    System.arraycopy(bytes, starts[block], bytes, to, sizes[block]);
                    starts[block] = to;
                    moved += sizes[block];
                }
                to += sizes[block];
            }
            return moved;
        }

        int freeBytes() {
            int sum = 0;
            for (int k = 0; k <= slots; k++) {
                sum += gapSize(k);
            }
            return sum;
        }

        int longestGap() {
            int longest = 0;
            for (int k = 0; k <= slots; k++) {
                longest = Math.max(longest, gapSize(k));
            }
            return longest;
        }

        int freeRows() {
            int rows = 0;
            for (int k = 0; k <= slots; k++) {
                if (gapSize(k) > 0) {
                    rows++;
                }
            }
            return rows;
        }

        private int firstGapOf(int n) {
            for (int k = 0; k <= slots; k++) {
                if (gapSize(k) >= n) {
                    return k;
                }
            }
            return NONE;
        }

        /** Gap k lies before slot k of the order, the last one behind all slots. */
        private int gapStart(int k) {
            return k == 0 ? 0 : starts[order[k - 1]] + sizes[order[k - 1]];
        }

        private int gapSize(int k) {
            int end = k == slots ? bytes.length : starts[order[k]];
            return end - gapStart(k);
        }

        private void insert(int gap, int block, int n) {
            starts[block] = gapStart(gap);
            sizes[block] = n;
            for (int k = slots; k > gap; k--) {
                order[k] = order[k - 1];
            }
            order[gap] = block;
            slots++;
        }

        private void removeFromOrder(int block) {
            int left = 0;
            for (int k = 0; k < slots; k++) {
                if (order[k] != block) {
                    order[left] = order[k];
                    left++;
                }
            }
            slots = left;
        }
    }

    /** Packs 256 bytes into its row out. */
    private static final class Packer {
        private static final int LAST_MATCH_START = 244;
        private static final int MATCHES_END = 251;

        // A match never takes more bytes than it stands for, and the last
        // sequence takes two more than its literals at most.
        private static final int PACKED_MOST = SIZE + 2;

        final int[] out = new int[PACKED_MOST];
        private int count;
        private int bestPlace;
        private int bestLength;

        /** Answers how many bytes it packed them to. */
        int pack(int[] row) {
            count = 0;
            int literalsFrom = 0;
            int i = 0;
            while (i <= LAST_MATCH_START) {
                findMatch(row, i);
                if (bestLength < MATCH_LEAST) {
                    i++;
                } else {
                    putSequence(row, literalsFrom, i, bestLength - MATCH_LEAST);
                    putMatch(i - bestPlace, bestLength - MATCH_LEAST);
                    i += bestLength;
                    literalsFrom = i;
                }
            }
            putSequence(row, literalsFrom, SIZE, 0);
            return count;
        }

        private void findMatch(int[] row, int i) {
            bestLength = 0;
            // From the nearest on: of equally long ones the first found stays.
            for (int from = i - 1; from >= 0; from--) {
                int length = sameLength(row, from, i);
                if (length > bestLength) {
                    bestLength = length;
                    bestPlace = from;
                }
            }
        }

        private static int sameLength(int[] row, int from, int i) {
            int length = 0;
            while (i + length < MATCHES_END && row[from + length] == row[i + length]) {
                length++;
            }
            return length;
        }

        /** The token, the number of literals and the literals. */
        private void putSequence(int[] row, int from, int end, int matchRest) {
            int literals = end - from;
            put(Math.min(literals, HALF_FULL) * 16 + Math.min(matchRest, HALF_FULL));
            putRest(literals);
            for (int k = from; k < end; k++) {
                put(row[k]);
            }
        }

        private void putMatch(int offset, int matchRest) {
            put(offset % 256);
            put(offset / 256);
            putRest(matchRest);
        }

        /** What of a number does not go into half of a token: one byte, for no number here is above 256. */
        private void putRest(int number) {
            if (number >= HALF_FULL) {
                put(number - HALF_FULL);
            }
        }

        private void put(int b) {
            if (count < out.length) {
                out[count] = b;
                count++;
            }
        }
    }

    /** Reads packed bytes into its row out, or tells what is wrong with them. */
    private static final class Reader {
        final int[] out = new int[SIZE];
        int errorPlace = NONE;
        private int error = 0;
        private int[] source = out;
        private int start = 0;
        private int length = 0;
        private int at = 0;
        private int count = 0;

        /** Answers how many bytes were put out, or minus the error. */
        int unpack(int[] row, int from, int n) {
            source = row;
            start = from;
            length = n;
            at = 0;
            count = 0;
            error = 0;
            errorPlace = NONE;
            boolean more = true;
            // Each sequence takes a byte or more, and the one that finds none is the last.
            for (int k = 0; k <= length && more; k++) {
                more = readSequence();
            }
            return error == 0 ? count : -error;
        }

        /** True if another sequence is to follow. */
        private boolean readSequence() {
            int tokenPlace = at;
            int token = next();
            readLiterals(token / 16, tokenPlace);
            if (error != 0 || at >= length) {
                return false;
            }
            readMatch(token % 16, tokenPlace);
            return error == 0;
        }

        private void readLiterals(int half, int tokenPlace) {
            int literals = readNumber(half);
            if (error != 0) {
                return;
            }
            if (literals > SIZE - count) {
                fail(TOO_MANY, tokenPlace);
            } else if (literals > length - at) {
                fail(LACKING, length);
            } else {
                for (int k = 0; k < literals; k++) {
                    putOut(next());
                }
            }
        }

        private void readMatch(int half, int tokenPlace) {
            int offsetPlace = at;
            int offset = next() + 256 * next();
            if (error == 0 && (offset == 0 || offset > count)) {
                fail(BAD_OFFSET, offsetPlace);
            }
            int match = MATCH_LEAST + readNumber(half);
            if (error == 0 && match > SIZE - count) {
                fail(TOO_MANY, tokenPlace);
            }
            if (error != 0) {
                return;
            }
            for (int k = 0; k < match; k++) {
                putOut(out[count - offset]);
            }
        }

        /** A number that begins in half of a token and may go on in bytes. */
        private int readNumber(int half) {
            int number = half;
            boolean more = half == HALF_FULL;
            for (int k = 0; k <= length && more; k++) {
                int b = next();
                number += b;
                more = b == BYTE_FULL;
            }
            return number;
        }

        private int next() {
            if (at >= length) {
                fail(LACKING, length);
                return 0;
            }
            at++;
            return source[start + at - 1];
        }

        private void putOut(int b) {
            out[count] = b;
            count++;
        }

        /** Of several errors the one that is met first is told. */
        private void fail(int what, int where) {
            if (error == 0) {
                error = what;
                errorPlace = where;
            }
        }
    }
}
