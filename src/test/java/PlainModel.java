import java.io.ByteArrayOutputStream;
import java.util.ArrayList;
import java.util.Arrays;
import java.util.List;

/**
 * The document said a second time, on other ways: the store is a row of owners,
 * slots are found by looking at each byte, packed bytes are read by a reader that throws.
 */
final class PlainModel {
    private static final int NOBODY = -1;

    /** An error of packed bytes. */
    static final class Wrong extends Exception {
        private static final long serialVersionUID = 1L;
        final int error;
        final int place;

        Wrong(int error, int place) {
            this.error = error;
            this.place = place;
        }
    }

    private final int[] buffer = new int[256];
    private int[] store;
    private int[] owner;
    private final int[] kind = new int[32];
    private final int[] same = new int[32];
    private final List<Integer> tape = new ArrayList<>();
    private int place = -1;

    PlainModel(int capacity) {
        int size = capacity < 0 ? 0 : capacity > 4096 ? 4096 : capacity;
        store = new int[size];
        owner = new int[size];
        Arrays.fill(owner, NOBODY);
    }

    /** A call by its number in the document's face. */
    int call(int method, int a, int b, int c) {
        switch (method) {
            case 0: return fill(a, b);
            case 1: return run(a, b, c);
            case 2: return copy(a, b, c);
            case 3: return a < 0 || a > 255 ? -1 : buffer[a];
            case 4: return write(a);
            case 5: return read(a);
            case 6: return trim(a);
            case 7: return slot(a, b);
            case 8: return a < 0 || a >= store.length ? -1 : store[a];
            case 9: return alter(a, b);
            case 10: return compact();
            case 11: return free(a);
            case 12: return type(a, b);
            case 13: return decode();
            default: return place;
        }
    }

    private int fill(int at, int w) {
        if (at < 0 || at > 252) {
            return -12;
        }
        buffer[at] = w >> 24 & 255;
        buffer[at + 1] = w >> 16 & 255;
        buffer[at + 2] = w >> 8 & 255;
        buffer[at + 3] = w & 255;
        return 1;
    }

    private int run(int at, int n, int b) {
        if (at < 0 || at > 255 || n < 1 || n > 256 || at + n > 256) {
            return -12;
        }
        Arrays.fill(buffer, at, at + n, Math.floorMod(b, 256));
        return 1;
    }

    private int copy(int to, int from, int n) {
        if (to < 0 || to > 255 || from < 0 || from > 255 || n < 1 || n > 256 || to + n > 256 || from + n > 256) {
            return -12;
        }
        int gone = 0;
        while (gone < n) {
            buffer[to + gone] = buffer[from + gone];
            gone++;
        }
        return 1;
    }

    private int write(int block) {
        if (block < 0 || block > 31) {
            return -11;
        }
        if (Arrays.stream(buffer).distinct().count() == 1) {
            disown(owner, block);
            kind[block] = 1;
            same[block] = buffer[0];
            return 0;
        }
        int[] packed = packed(buffer);
        boolean small = packed.length < 256;
        int[] bytes = small ? packed : buffer.clone();
        int[] oldOwner = owner.clone();
        disown(owner, block);
        int at = leastPlace(bytes.length);
        if (at < 0) {
            int unowned = (int) Arrays.stream(owner).filter(o -> o == NOBODY).count();
            if (unowned < bytes.length) {
                owner = oldOwner;
                return -14;
            }
            compact();
            at = leastPlace(bytes.length);
        }
        for (int k = 0; k < bytes.length; k++) {
            store[at + k] = bytes[k];
            owner[at + k] = block;
        }
        kind[block] = small ? 2 : 3;
        return bytes.length;
    }

    private static void disown(int[] owner, int block) {
        for (int i = 0; i < owner.length; i++) {
            if (owner[i] == block) {
                owner[i] = NOBODY;
            }
        }
    }

    private int leastPlace(int n) {
        for (int at = 0; at + n <= owner.length; at++) {
            if (Arrays.stream(owner, at, at + n).allMatch(o -> o == NOBODY)) {
                return at;
            }
        }
        return -1;
    }

    private int[] slotBytes(int block) {
        int[] bytes = new int[slot(block, 1)];
        int k = 0;
        for (int i = 0; i < owner.length; i++) {
            if (owner[i] == block) {
                bytes[k++] = store[i];
            }
        }
        return bytes;
    }

    private int read(int block) {
        if (block < 0 || block > 31) {
            return -11;
        }
        int[] bytes = new int[256];
        if (kind[block] == 1) {
            Arrays.fill(bytes, same[block]);
        } else if (kind[block] == 3) {
            bytes = slotBytes(block);
        } else if (kind[block] == 2) {
            try {
                bytes = unpacked(slotBytes(block));
            } catch (Wrong w) {
                return -w.error;
            }
            if (bytes.length < 256) {
                return -4;
            }
        }
        System.arraycopy(bytes, 0, buffer, 0, 256);
        return 1;
    }

    private int trim(int block) {
        int had = slot(block, 1);
        if (had >= 0) {
            disown(owner, block);
            kind[block] = 0;
        }
        return had;
    }

    private int slot(int block, int what) {
        if (block < 0 || block > 31) {
            return -11;
        }
        if (what == 0) {
            return kind[block];
        }
        if (what == 1) {
            return (int) Arrays.stream(owner).filter(o -> o == block).count();
        }
        if (what != 2) {
            return -12;
        }
        for (int i = 0; i < owner.length; i++) {
            if (owner[i] == block) {
                return i;
            }
        }
        return -1;
    }

    private int alter(int i, int mask) {
        if (i < 0 || i >= store.length) {
            return -12;
        }
        store[i] = (store[i] ^ mask) & 255;
        return 1;
    }

    private int compact() {
        int[] newStore = store.clone();
        int[] newOwner = new int[owner.length];
        Arrays.fill(newOwner, NOBODY);
        int to = 0;
        int moved = 0;
        for (int i = 0; i < owner.length; i++) {
            if (owner[i] != NOBODY) {
                newStore[to] = store[i];
                newOwner[to] = owner[i];
                moved += to == i ? 0 : 1;
                to++;
            }
        }
        store = newStore;
        owner = newOwner;
        return moved;
    }

    private int free(int what) {
        if (what < 0 || what > 2) {
            return -12;
        }
        StringBuilder map = new StringBuilder();
        for (int o : owner) {
            map.append(o == NOBODY ? '.' : '#');
        }
        int all = 0;
        int longest = 0;
        int rows = 0;
        for (String row : map.toString().split("#")) {
            all += row.length();
            longest = Math.max(longest, row.length());
            rows += row.isEmpty() ? 0 : 1;
        }
        return what == 0 ? all : what == 1 ? longest : rows;
    }

    private int type(int v, int n) {
        if (n < 1 || n > 4) {
            return -12;
        }
        if (tape.size() + n > 600) {
            return -14;
        }
        for (int shift = 8 * n - 8; shift >= 0; shift -= 8) {
            tape.add(v >> shift & 255);
        }
        return tape.size();
    }

    private int decode() {
        int[] bytes = tape.stream().mapToInt(Integer::intValue).toArray();
        tape.clear();
        try {
            int[] out = unpacked(bytes);
            System.arraycopy(out, 0, buffer, 0, out.length);
            place = -1;
            return out.length;
        } catch (Wrong w) {
            place = w.place;
            return -w.error;
        }
    }

    static int[] packed(int[] b) {
        ByteArrayOutputStream out = new ByteArrayOutputStream();
        int from = 0;
        int i = 0;
        while (i <= 244) {
            int best = -1;
            int most = 3;
            for (int p = 0; p < i; p++) {
                int same = 0;
                while (i + same <= 250 && b[p + same] == b[i + same]) {
                    same++;
                }
                if (same > 3 && same >= most) {
                    most = same;
                    best = p;
                }
            }
            if (best < 0) {
                i++;
                continue;
            }
            sequence(out, b, from, i, most - 4);
            out.write((i - best) & 255);
            out.write((i - best) >> 8);
            further(out, most - 4);
            i += most;
            from = i;
        }
        sequence(out, b, from, 256, 0);
        byte[] bytes = out.toByteArray();
        int[] row = new int[bytes.length];
        for (int k = 0; k < row.length; k++) {
            row[k] = bytes[k] & 255;
        }
        return row;
    }

    private static void sequence(ByteArrayOutputStream out, int[] b, int from, int end, int match) {
        int literals = end - from;
        out.write((literals > 15 ? 15 : literals) << 4 | (match > 15 ? 15 : match));
        further(out, literals);
        for (int k = from; k < end; k++) {
            out.write(b[k]);
        }
    }

    private static void further(ByteArrayOutputStream out, int number) {
        for (int rest = number - 15; rest >= 0; rest -= 255) {
            out.write(Math.min(rest, 255));
        }
    }

    static int[] unpacked(int[] in) throws Wrong {
        int[] out = new int[256];
        int n = 0;
        int at = 0;
        while (true) {
            int token = at;
            int t = byteAt(in, at++);
            int literals = t >> 4;
            if (literals == 15) {
                int more;
                do {
                    more = byteAt(in, at++);
                    literals += more;
                } while (more == 255);
            }
            if (n + literals > 256) {
                throw new Wrong(3, token);
            }
            if (at + literals > in.length) {
                throw new Wrong(1, in.length);
            }
            for (int k = 0; k < literals; k++) {
                out[n++] = in[at++];
            }
            if (at == in.length) {
                return Arrays.copyOf(out, n);
            }
            int offset = byteAt(in, at) | byteAt(in, at + 1) << 8;
            if (offset == 0 || offset > n) {
                throw new Wrong(2, at);
            }
            at += 2;
            int match = 4 + (t & 15);
            if (match == 19) {
                int more;
                do {
                    more = byteAt(in, at++);
                    match += more;
                } while (more == 255);
            }
            if (n + match > 256) {
                throw new Wrong(3, token);
            }
            for (int k = 0; k < match; k++, n++) {
                out[n] = out[n - offset];
            }
        }
    }

    private static int byteAt(int[] in, int at) throws Wrong {
        if (at >= in.length) {
            throw new Wrong(1, in.length);
        }
        return in[at];
    }
}
