/** Builds the logs that the tests read, and pictures of what is told of them. */
final class Logs {
    private Logs() {
    }

    /** Adds a line with its words. */
    static void add(Nightjar x, int time, int source, int level, int... words) {
        x.line(time, source, level);
        for (int word : words) {
            x.word(word);
        }
    }

    /** Many lines with the same words, a time unit apart, all of one source. */
    static Nightjar same(int lines, int... words) {
        Nightjar x = new Nightjar();
        for (int i = 0; i < lines; i++) {
            add(x, i, 0, 0, words);
        }
        return x;
    }

    /** Twenty templates of two words each, all learned: {t, 500} for t from 0. */
    static Nightjar full() {
        Nightjar x = new Nightjar();
        x.set(0, 100);
        for (int t = 0; t < 20; t++) {
            add(x, t, 0, 0, t, 500);
        }
        x.learn(70);
        return x;
    }

    /** All that can be asked without an argument out of range. */
    static String picture(Nightjar x) {
        StringBuilder seen = new StringBuilder();
        seen.append(x.digest());
        for (int line = 0; line < x.many(0); line++) {
            for (int what = 0; what < 4; what++) {
                seen.append(' ').append(x.ofLine(line, what));
            }
            for (int place = 0; place < x.ofLine(line, 3); place++) {
                seen.append(' ').append(x.wordAt(line, place));
            }
        }
        // A setting can only be asked by setting it; it is set back at once.
        for (int what = 0; what < 4; what++) {
            int n = x.set(what, 1);
            x.set(what, n);
            seen.append(' ').append(n);
        }
        return seen.toString();
    }
}
