import java.util.stream.IntStream;

/** Rows, buffers, blocks and tapes that tests begin with. */
final class Given {
    private Given() {
    }

    /** The numbers from one on up to an end. */
    static int[] count(int from, int end) {
        return IntStream.range(from, end).toArray();
    }

    static int[] times(int n, int b) {
        return IntStream.range(0, n).map(i -> b).toArray();
    }

    static int[] bytes(int... bytes) {
        return bytes;
    }

    /** Rows one behind the other. */
    static int[] join(int[]... rows) {
        return IntStream.range(0, rows.length).flatMap(r -> IntStream.of(rows[r])).toArray();
    }

    /** Puts a whole row into the buffer, by 64 calls. */
    static void buffer(PackedSlots x, int[] row) {
        for (int i = 0; i < 256; i += 4) {
            x.fill(i, row[i] << 24 | row[i + 1] << 16 | row[i + 2] << 8 | row[i + 3]);
        }
    }

    /** Bytes 0 .. 255, which no packing makes shorter. */
    static void allDifferent(PackedSlots x) {
        buffer(x, count(0, 256));
    }

    /** Brings bytes into the buffer that are packed to so many, 11 .. 24: 1, 2 .. and then one byte over and over. */
    static void small(PackedSlots x, int bytes) {
        int last = bytes - 10;
        if (bytes == 11) {
            x.run(0, 256, 2);
        } else {
            for (int i = 0; i < last; i++) {
                x.run(i, 256 - i, i + 1);
            }
        }
        x.run(255, 1, 255);
    }

    /** What small bytes are packed to. */
    static int[] smallPacked(int bytes) {
        int literals = bytes - 10;
        int last = bytes == 11 ? 2 : literals;
        int[] first = bytes == 11 ? bytes(2) : count(1, literals + 1);
        return join(bytes(literals * 16 + 15), first, bytes(1, 0, 251 - literals - 19, 0x50), times(4, last), bytes(255));
    }

    /** Writes a block that is packed to so many bytes, 11 .. 24. */
    static int smallBlock(PackedSlots x, int block, int bytes) {
        small(x, bytes);
        return x.write(block);
    }

    /** A new object with blocks 0, 1 .. packed to so many bytes, one behind the other. */
    static PackedSlots slots(int capacity, int... sizes) {
        PackedSlots x = new PackedSlots(capacity);
        for (int b = 0; b < sizes.length; b++) {
            smallBlock(x, b, sizes[b]);
        }
        return x;
    }

    /** Types a row of bytes, four a call as long as there are so many. */
    static void tape(PackedSlots x, int... bytes) {
        int i = 0;
        while (i < bytes.length) {
            int n = Math.min(4, bytes.length - i);
            int v = 0;
            for (int k = 0; k < n; k++) {
                v = v << 8 | bytes[i + k];
            }
            x.type(v, n);
            i += n;
        }
    }
}
