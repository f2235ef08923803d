import java.util.function.Supplier;

/** Builds the logs that the tests read, and pictures of what is told of them. */
final class Logs {
    private Logs() {
    }

    /** Adds a line with its words. */
    static void add(Nightjar x, int time, int source, int level, int... words) {
        x.line(time, source, level);
        for (int word : words) {
            x.word(word);
        }
    }

    /** Many lines with the same words, a time unit apart, all of one source. */
    static Nightjar same(int lines, int... words) {
        Nightjar x = new Nightjar();
        for (int i = 0; i < lines; i++) {
            add(x, i, 0, 0, words);
        }
        return x;
    }

    /** Twenty templates of two words each, all learned: {t, 500} for t from 0. */
    static Nightjar full() {
        Nightjar x = new Nightjar();
        x.set(0, 100);
        for (int t = 0; t < 20; t++) {
            add(x, t, 0, 0, t, 500);
        }
        x.learn(70);
        return x;
    }

    /**
     * A little of all: five learned lines and one that is not, the templates
     * {1, hole}, {2, 2, 2} and {}, two sessions, one spike, and template 0 as
     * a cause of template 1.
     */
    static Nightjar some() {
        Nightjar x = new Nightjar();
        add(x, 0, 0, 0, 1, 50);
        add(x, 0, 0, 3, 1, 51);
        add(x, 1, 0, 1, 2, 2, 2);
        add(x, 9, 1, 0, 1, 50);
        add(x, 40, 0, 2);
        add(x, 40, 2, 1, 1, 52);
        x.learn(5);
        return x;
    }

    /**
     * As many of all as there can be: 70 lines, all learned and of level 3, 20
     * templates, 70 sessions, and a spike by each three lines.
     */
    static Nightjar most() {
        Nightjar x = new Nightjar();
        for (int i = 0; i < 70; i++) {
            int burst = i / 3;
            add(x, burst * 50, 7, 3, burst % 20, i);
        }
        x.learn(70);
        return x;
    }

    /** The same lines, but only the first one is learned, and so there is only its template. */
    static Nightjar mostButForgotten() {
        Nightjar x = most();
        x.forget();
        x.learn(1);
        return x;
    }

    /** All that can be asked of such an object now and, if it goes on, later. */
    static String picture(Supplier<Nightjar> made) {
        Asker asker = new Asker(made);
        StringBuilder seen = new StringBuilder();
        seen.append(asker.next().digest());
        int lines = asker.next().many(0);
        for (int line = 0; line < lines; line++) {
            int[] told = new int[4];
            for (int what = 0; what < 4; what++) {
                told[what] = asker.next().ofLine(line, what);
                seen.append(' ').append(told[what]);
            }
            for (int place = 0; place < told[3]; place++) {
                seen.append(' ').append(asker.next().wordAt(line, place));
            }
        }
        return seen + settings(made.get()) + sequel(made.get());
    }

    /** A setting can only be asked by setting it. */
    private static String settings(Nightjar x) {
        StringBuilder seen = new StringBuilder();
        for (int what = 0; what < 4; what++) {
            seen.append(' ').append(x.set(what, 1));
        }
        return seen.toString();
    }

    private static String sequel(Nightjar x) {
        StringBuilder seen = new StringBuilder();
        if (x.many(0) < 70) {
            add(x, 9999, 0, 3, 1, 998);
        }
        seen.append(' ').append(x.digest());
        seen.append(' ').append(x.learn(70)).append(' ').append(x.digest());
        seen.append(' ').append(x.forget()).append(' ').append(x.digest());
        seen.append(' ').append(x.learn(70)).append(' ').append(x.digest());
        return seen.toString();
    }
}
