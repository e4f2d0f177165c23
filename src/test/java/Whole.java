import java.util.ArrayList;
import java.util.List;
import java.util.function.Supplier;

/**
 * All that can be seen of an object. As an object is good for 512 calls only, it is looked at
 * on several objects that were made in the same way, by 200 calls at most.
 */
final class Whole {
    private static final int LOOKS = 300;

    private Whole() {
    }

    static List<Integer> of(Supplier<PackedSlots> made, int capacity) {
        List<Integer> seen = new ArrayList<>();
        PackedSlots x = made.get();
        for (int i = 0; i < 256; i++) {
            seen.add(x.octet(i));
        }
        for (int i = 0; i < capacity; i++) {
            if (i % LOOKS == 0) {
                x = made.get();
            }
            seen.add(x.stored(i));
        }
        x = made.get();
        seen.add(x.place());
        for (int what = 0; what < 3; what++) {
            seen.add(x.free(what));
            for (int b = 0; b < 32; b++) {
                seen.add(x.slot(b, what));
            }
        }
        seen.add(made.get().type(0, 1));
        for (int b = 0; b < 32; b++) {
            x = made.get();
            seen.add(x.read(b));
            addBuffer(x, seen);
        }
        x = made.get();
        seen.add(x.decode());
        seen.add(x.place());
        addBuffer(x, seen);
        return seen;
    }

    private static void addBuffer(PackedSlots x, List<Integer> seen) {
        for (int i = 0; i < 256; i++) {
            seen.add(x.octet(i));
        }
    }
}
