import java.util.function.Supplier;

/**
 * Asks objects that are made the same way. Only the first 512 calls of an
 * object are promised, so a new one is made before one has had too many.
 */
final class Asker {
    // The making of an object takes some 250 calls at the most.
    private static final int MOST_ASKED = 240;

    private final Supplier<Nightjar> made;
    private Nightjar x;
    private int asked;

    Asker(Supplier<Nightjar> made) {
        this.made = made;
    }

    /** The object to put one question to, which must change nothing. */
    Nightjar next() {
        if (x == null || asked == MOST_ASKED) {
            x = made.get();
            asked = 0;
        }
        asked++;
        return x;
    }
}
