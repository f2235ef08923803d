/** Point 4 of the terms, and promises 18 and 19: count, spike. */
final class WindowsTest {
    private static final Check CHECK = new Check();
    private static final Class<IllegalArgumentException> ARGUMENT = IllegalArgumentException.class;
    private static final Class<IndexOutOfBoundsException> INDEX = IndexOutOfBoundsException.class;

    public static void main(String[] args) {
        countTells();
        threeAreNeeded();
        twiceTheCountIsNeeded();
        fourWindowsAreSummed();
        spikesAreInOrder();
        spikeRefuses();
        CHECK.end("WindowsTest");
    }

    /** Adds lines of the word in the window of width 10. */
    private static void burst(Nightjar x, int window, int lines, int word) {
        for (int i = 0; i < lines; i++) {
            Logs.add(x, window * 10 + (i < 10 ? i : 9), 0, 0, word);
        }
    }

    private static Nightjar twoTemplates() {
        Nightjar x = new Nightjar();
        x.set(0, 100);
        Logs.add(x, 0, 0, 0, 1);
        Logs.add(x, 9, 0, 0, 1);
        Logs.add(x, 9, 0, 0, 2);
        Logs.add(x, 10, 0, 0, 1);
        Logs.add(x, 9999, 0, 0, 2);
        Logs.add(x, 9999, 0, 0, 2);
        x.learn(5);
        return x;
    }

    private static void countTells() {
        Nightjar x = twoTemplates();
        CHECK.same("count(0, 0)", 2, x.count(0, 0));
        CHECK.same("count(0, 1)", 1, x.count(0, 1));
        CHECK.same("count(1, 0)", 1, x.count(1, 0));
        CHECK.same("count(1, 999) without the line that is not learned", 1, x.count(1, 999));
        CHECK.same("count(0, 2)", 0, x.count(0, 2));
        CHECK.same("count of a window behind all", 0, x.count(0, Integer.MAX_VALUE));
        x.set(2, 1);
        CHECK.same("count(1, 9) with a width of 1", 1, x.count(1, 9));
        CHECK.same("count(1, 9999) with a width of 1", 1, x.count(1, 9999));
        x.set(2, 1000);
        CHECK.same("count(0, 0) with a width of 1000", 3, x.count(0, 0));
        for (int template : new int[] {-1, 2, Integer.MAX_VALUE, Integer.MIN_VALUE}) {
            CHECK.refuses("count(" + template + ", 0)", INDEX, WindowsTest::twoTemplates, y -> y.count(template, 0));
            CHECK.refuses("count(" + template + ", -1)", INDEX, WindowsTest::twoTemplates, y -> y.count(template, -1));
        }
        for (int window : new int[] {-1, Integer.MIN_VALUE}) {
            CHECK.refuses("count(0, " + window + ")", ARGUMENT, WindowsTest::twoTemplates, y -> y.count(0, window));
        }
    }

    private static void threeAreNeeded() {
        for (int lines = 1; lines <= 4; lines++) {
            Nightjar x = new Nightjar();
            burst(x, 0, lines, 1);
            x.learn(70);
            CHECK.same("spikes of " + lines + " lines", lines >= 3 ? 1 : 0, x.many(5));
        }
        // Lines of the same window, but of two templates.
        Nightjar x = new Nightjar();
        x.set(0, 100);
        burst(x, 0, 2, 1);
        burst(x, 0, 0, 2);
        Logs.add(x, 9, 0, 0, 2);
        Logs.add(x, 9, 0, 0, 2);
        x.learn(70);
        CHECK.same("spikes of two and two lines", 0, x.many(5));
    }

    private static void twiceTheCountIsNeeded() {
        for (int before = 5; before <= 7; before++) {
            Nightjar x = new Nightjar();
            burst(x, 0, before, 1);
            burst(x, 1, 3, 1);
            x.learn(70);
            CHECK.same("spikes of 3 behind " + before, before < 6 ? 2 : 1, x.many(5));
        }
    }

    private static void fourWindowsAreSummed() {
        for (int window = 1; window <= 6; window++) {
            Nightjar x = new Nightjar();
            burst(x, 0, 6, 1);
            burst(x, window, 3, 1);
            x.learn(70);
            CHECK.same("spikes of 3 in window " + window + " behind 6", window > 4 ? 2 : 1, x.many(5));
        }
        Nightjar x = new Nightjar();
        burst(x, 0, 2, 1);
        burst(x, 1, 2, 1);
        burst(x, 2, 1, 1);
        burst(x, 3, 1, 1);
        burst(x, 4, 3, 1);
        x.learn(70);
        CHECK.same("spikes behind 6 in four windows", 0, x.many(5));
        x.set(2, 1000);
        CHECK.same("spikes with another width", 1, x.many(5));
        CHECK.same("the count then", 9, x.spike(0, 2));
    }

    private static Nightjar threeSpikes() {
        Nightjar x = new Nightjar();
        x.set(0, 100);
        Logs.add(x, 20, 0, 0, 1);
        for (int i = 0; i < 3; i++) {
            Logs.add(x, 21 + i, 0, 0, 2);
        }
        for (int i = 0; i < 4; i++) {
            Logs.add(x, 30 + i, 0, 0, 2);
            Logs.add(x, 30 + i, 0, 0, 1);
        }
        Logs.add(x, 39, 0, 0, 1);
        x.learn(70);
        return x;
    }

    private static void spikesAreInOrder() {
        Nightjar x = threeSpikes();
        int[][] due = {{2, 1, 3}, {3, 0, 5}, {3, 1, 4}};
        CHECK.same("spikes", 3, x.many(5));
        for (int spike = 0; spike < 3; spike++) {
            for (int what = 0; what <= 2; what++) {
                CHECK.same("spike(" + spike + ", " + what + ")", due[spike][what], x.spike(spike, what));
            }
        }
        Nightjar most = new Nightjar();
        for (int i = 0; i < 69; i++) {
            Logs.add(most, i / 3 * 50, 0, 0, 1);
        }
        most.learn(70);
        CHECK.same("the most spikes that there can be", 23, most.many(5));
        CHECK.same("the window of the last one", 110, most.spike(22, 0));
    }

    private static void spikeRefuses() {
        for (int spike : new int[] {-1, 3, 70, Integer.MAX_VALUE, Integer.MIN_VALUE}) {
            CHECK.refuses("spike(" + spike + ", 0)", INDEX, WindowsTest::threeSpikes, y -> y.spike(spike, 0));
            CHECK.refuses("spike(" + spike + ", 3)", INDEX, WindowsTest::threeSpikes, y -> y.spike(spike, 3));
        }
        for (int what : new int[] {-1, 3, Integer.MAX_VALUE}) {
            CHECK.refuses("spike(0, " + what + ")", ARGUMENT, WindowsTest::threeSpikes, y -> y.spike(0, what));
        }
        CHECK.refuses("spike(0, 0) without any", INDEX, () -> Logs.same(2, 1), y -> y.spike(0, 0));
    }
}
