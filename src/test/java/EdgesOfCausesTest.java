/** Each sentence of the promises 18 to 22 that names a boundary case. */
final class EdgesOfCausesTest {
    private static final Check CHECK = new Check();
    private static final Class<IllegalArgumentException> ARGUMENT = IllegalArgumentException.class;
    private static final Class<IndexOutOfBoundsException> INDEX = IndexOutOfBoundsException.class;

    public static void main(String[] args) {
        count();
        countArguments();
        spike();
        spikeOrder();
        spikeArguments();
        causes();
        causesArguments();
        cause();
        causeArguments();
        because();
        becauseOfNone();
        becauseArguments();
        CHECK.end("EdgesOfCausesTest");
    }

    private static Nightjar notLearned() {
        return Logs.same(70, 1);
    }

    private static void count() {
        CHECK.about("18: Returns its COUNT there");
        Nightjar all = notLearned();
        all.set(2, 1000);
        all.learn(69);
        CHECK.same("all learned ones of 70", 69, all.count(0, 0));
        all.learn(1);
        CHECK.same("all 70", 70, all.count(0, 0));
        CHECK.same("the window behind them", 0, all.count(0, 1));
        Nightjar last = new Nightjar();
        last.set(2, 1);
        Logs.add(last, 0, 0, 0, 1);
        Logs.add(last, 9999, 0, 0, 1);
        last.learn(2);
        CHECK.same("the first window of all", 1, last.count(0, 0));
        CHECK.same("the second window of all", 0, last.count(0, 1));
        CHECK.same("the last window but one", 0, last.count(0, 9998));
        CHECK.same("the last window of all", 1, last.count(0, 9999));
        CHECK.same("a window without any time", 0, last.count(0, 10000));
        CHECK.same("the greatest window", 0, last.count(0, Integer.MAX_VALUE));
        Nightjar most = Logs.most();
        CHECK.same("template 19 in window 95", 3, most.count(19, 95));
        CHECK.same("template 18 in window 95", 0, most.count(18, 95));
    }

    private static void countArguments() {
        CHECK.about("18: Throws IndexOutOfBoundsException if there is no such TEMPLATE");
        CHECK.range("no line yet", INDEX, 0, -1, Nightjar::new, (x, n) -> x.count(n, 0));
        CHECK.range("nothing learned", INDEX, 0, -1, EdgesOfCausesTest::notLearned, (x, n) -> x.count(n, 0));
        CHECK.range("some", INDEX, 0, 2, Logs::some, (x, n) -> x.count(n, 0));
        CHECK.range("all", INDEX, 0, 19, Logs::most, (x, n) -> x.count(n, Integer.MAX_VALUE));
        CHECK.range("all but one forgotten", INDEX, 0, 0, Logs::mostButForgotten, (x, n) -> x.count(n, 0));
        CHECK.range("no such window either", INDEX, 0, -1, Nightjar::new, (x, n) -> x.count(n, -1));
        CHECK.refuses("template 3, window -1", INDEX, Logs::some, x -> x.count(3, -1));
        CHECK.refuses("template -1, window -1", INDEX, Logs::some, x -> x.count(-1, -1));
        CHECK.about("18: Throws IllegalArgumentException if window is less than 0");
        for (int window : new int[] {-1, -2, Integer.MIN_VALUE}) {
            CHECK.refuses("window " + window, ARGUMENT, Logs::some, x -> x.count(0, window));
            CHECK.refuses("window " + window + " of all", ARGUMENT, Logs::most, x -> x.count(19, window));
        }
    }

    private static void tellsSpike(Nightjar x, int spike, int... due) {
        for (int what = 0; what <= 2; what++) {
            CHECK.same("spike(" + spike + ", " + what + ")", due[what], x.spike(spike, what));
        }
    }

    private static void spike() {
        CHECK.about("19: 0 the WINDOW, 1 the TEMPLATE, 2 the COUNT");
        Nightjar most = Logs.most();
        for (int spike = 0; spike < 23; spike++) {
            tellsSpike(most, spike, spike * 5, spike % 20, 3);
        }
        tellsSpike(Logs.some(), 0, 0, 0, 3);
        Nightjar one = new Nightjar();
        one.set(2, 1);
        for (int i = 0; i < 70; i++) {
            Logs.add(one, 9999, 0, 0, 1);
        }
        one.learn(70);
        tellsSpike(one, 0, 9999, 0, 70);
    }

    private static void spikeOrder() {
        CHECK.about("19: from 0, by WINDOWS, then by TEMPLATES");
        Nightjar x = new Nightjar();
        x.set(0, 100);
        // Behind the first line of each template the last template comes first.
        for (int t = 0; t < 20; t++) {
            Logs.add(x, 0, 0, 0, t);
        }
        for (int i = 0; i < 40; i++) {
            Logs.add(x, 1, 0, 0, 19 - i / 2);
        }
        for (int i = 0; i < 8; i++) {
            Logs.add(x, 1000, 0, 0, 7 - i / 4);
        }
        x.learn(70);
        CHECK.same("spikes", 22, x.many(5));
        for (int spike = 0; spike < 20; spike++) {
            tellsSpike(x, spike, 0, spike, 3);
        }
        tellsSpike(x, 20, 100, 6, 4);
        tellsSpike(x, 21, 100, 7, 4);
    }

    /** There were 23 spikes with WIDTH 10; with WIDTH 1000 there is one of 60 lines alone. */
    private static Nightjar fewerSpikes() {
        Nightjar x = new Nightjar();
        for (int i = 0; i < 69; i++) {
            Logs.add(x, i / 3 * 50, 0, 0, 1);
        }
        x.learn(70);
        x.set(2, 1000);
        return x;
    }

    private static void spikeArguments() {
        CHECK.about("19: Throws IndexOutOfBoundsException if there is no such pair");
        CHECK.range("no line yet", INDEX, 0, -1, Nightjar::new, (x, n) -> x.spike(n, 0));
        CHECK.range("nothing learned", INDEX, 0, -1, EdgesOfCausesTest::notLearned, (x, n) -> x.spike(n, 0));
        CHECK.range("lines, but no spike", INDEX, 0, -1, Logs::full, (x, n) -> x.spike(n, 0));
        CHECK.range("some", INDEX, 0, 0, Logs::some, (x, n) -> x.spike(n, 2));
        CHECK.range("all", INDEX, 0, 22, Logs::most, (x, n) -> x.spike(n, 1));
        CHECK.range("once there were more", INDEX, 0, 0, EdgesOfCausesTest::fewerSpikes, (x, n) -> x.spike(n, 0));
        CHECK.range("all but one forgotten", INDEX, 0, -1, Logs::mostButForgotten, (x, n) -> x.spike(n, 0));
        CHECK.range("no such what either", INDEX, 0, -1, Nightjar::new, (x, n) -> x.spike(n, 3));
        CHECK.refuses("spike 1, what -1", INDEX, Logs::some, x -> x.spike(1, -1));
        CHECK.refuses("spike -1, what 3", INDEX, Logs::some, x -> x.spike(-1, 3));
        CHECK.about("19: Throws IllegalArgumentException if what is not 0 to 2");
        CHECK.range("the first spike", ARGUMENT, 0, 2, Logs::some, (x, n) -> x.spike(0, n));
        CHECK.range("the last spike of all", ARGUMENT, 0, 2, Logs::most, (x, n) -> x.spike(22, n));
    }

    /** Template t has those with smaller numbers as causes, nineteen at the most. */
    private static Nightjar nineteen() {
        return Logs.full();
    }

    private static void causes() {
        CHECK.about("20: Returns how many CAUSES it has");
        Nightjar x = nineteen();
        for (int t = 0; t < 20; t++) {
            CHECK.same("causes(" + t + ")", t, x.causes(t));
        }
        x.set(3, 0);
        for (int t = 0; t < 20; t++) {
            CHECK.same("causes(" + t + ") with BACK 0", 0, x.causes(t));
        }
        CHECK.same("causes of a template alone", 0, learnedAll().causes(0));
    }

    private static Nightjar learnedAll() {
        Nightjar x = notLearned();
        x.learn(70);
        return x;
    }

    private static void causesArguments() {
        CHECK.about("20: Throws IndexOutOfBoundsException if there is no such TEMPLATE");
        CHECK.range("no line yet", INDEX, 0, -1, Nightjar::new, (x, n) -> x.causes(n));
        CHECK.range("nothing learned", INDEX, 0, -1, EdgesOfCausesTest::notLearned, (x, n) -> x.causes(n));
        CHECK.range("one", INDEX, 0, 0, EdgesOfCausesTest::learnedAll, (x, n) -> x.causes(n));
        CHECK.range("some", INDEX, 0, 2, Logs::some, (x, n) -> x.causes(n));
        CHECK.range("all", INDEX, 0, 19, Logs::most, (x, n) -> x.causes(n));
        CHECK.range("all but one forgotten", INDEX, 0, 0, Logs::mostButForgotten, (x, n) -> x.causes(n));
    }

    private static void tellsCause(Nightjar x, int template, int cause, int... due) {
        for (int what = 0; what <= 3; what++) {
            CHECK.same("cause(" + template + ", " + cause + ", " + what + ")", due[what],
                x.cause(template, cause, what));
        }
    }

    private static void cause() {
        CHECK.about("21: 0 the TEMPLATE c, 1 HITS, 2 REST, 3 the SCORE");
        tellsCause(Logs.some(), 1, 0, 0, 1, 2, 1000 - 500);
        Nightjar x = nineteen();
        tellsCause(x, 1, 0, 0, 1, 18, 1000 - 18000 / 19);
        tellsCause(x, 19, 0, 18, 1, 0, 1000);
        tellsCause(x, 19, 18, 0, 1, 18, 1000 - 18000 / 19);
    }

    private static Nightjar forgotten() {
        Nightjar x = nineteen();
        x.forget();
        x.learn(1);
        return x;
    }

    private static Nightjar shortBack() {
        Nightjar x = nineteen();
        x.set(3, 0);
        return x;
    }

    private static void causeArguments() {
        CHECK.about("21: Throws IndexOutOfBoundsException if there is no such TEMPLATE");
        CHECK.range("no line yet", INDEX, 0, -1, Nightjar::new, (x, n) -> x.cause(n, 0, 0));
        CHECK.range("nothing learned", INDEX, 0, -1, EdgesOfCausesTest::notLearned, (x, n) -> x.cause(n, 0, 0));
        CHECK.refuses("template 3 of some", INDEX, Logs::some, x -> x.cause(3, 0, 0));
        CHECK.refuses("template 20 of all", INDEX, EdgesOfCausesTest::nineteen, x -> x.cause(20, 0, 0));
        CHECK.refuses("template -1", INDEX, EdgesOfCausesTest::nineteen, x -> x.cause(-1, 0, 0));
        CHECK.refuses("template 20, what 4", INDEX, EdgesOfCausesTest::nineteen, x -> x.cause(20, 0, 4));
        CHECK.refuses("template -1, what -1", INDEX, EdgesOfCausesTest::nineteen, x -> x.cause(-1, 0, -1));
        CHECK.about("21: or it has no such CAUSE");
        for (int template = 0; template < 20; template++) {
            int t = template;
            CHECK.range("causes of template " + t, INDEX, 0, t - 1, EdgesOfCausesTest::nineteen,
                (x, n) -> x.cause(t, n, 3));
            CHECK.refuses("no such cause, what 4", INDEX, EdgesOfCausesTest::nineteen, x -> x.cause(t, t, 4));
            CHECK.refuses("a cause that was forgotten", INDEX, EdgesOfCausesTest::forgotten, x -> x.cause(t, 0, 0));
            CHECK.refuses("a cause that BACK 0 leaves out", INDEX, EdgesOfCausesTest::shortBack,
                x -> x.cause(t, 0, 0));
            CHECK.refuses("cause -1, what -1", INDEX, EdgesOfCausesTest::nineteen, x -> x.cause(t, -1, -1));
        }
        CHECK.about("21: Throws IllegalArgumentException if what is not 0 to 3");
        CHECK.range("one cause", ARGUMENT, 0, 3, Logs::some, (x, n) -> x.cause(1, 0, n));
        CHECK.range("the last cause of all", ARGUMENT, 0, 3, EdgesOfCausesTest::nineteen, (x, n) -> x.cause(19, 18, n));
    }

    private static void because() {
        CHECK.about("22: the first CAUSE of its TEMPLATE of which there is a LINE in its SCENE: the last such LINE");
        Nightjar x = nineteen();
        for (int line = 1; line < 20; line++) {
            // The nearest template is the first cause, and that has one line.
            CHECK.same("because(" + line + ")", line - 1, x.because(line));
        }
        Nightjar far = new Nightjar();
        far.set(0, 100);
        Logs.add(far, 0, 0, 0, 1);
        for (int i = 0; i < 68; i++) {
            Logs.add(far, 0, 1 + i % 7, 0, 2);
        }
        Logs.add(far, 20, 0, 0, 3);
        far.learn(70);
        CHECK.same("line 0, BACK ahead of line 69", 0, far.because(69));
        CHECK.same("causes by line 69 alone", 1, far.causes(2));
        far.set(3, 19);
        CHECK.same("line 0, one more than BACK ahead", -1, far.because(69));
        Nightjar last = new Nightjar();
        last.set(0, 100);
        for (int i = 0; i < 69; i++) {
            Logs.add(last, 0, 0, 0, 1);
        }
        Logs.add(last, 0, 0, 0, 2);
        last.learn(70);
        // HITS 1 of 1, REST 68 of 69.
        CHECK.same("the last line of 69", 68, last.because(69));
        CHECK.same("the first cause, of which there is none in the scene, is passed over", 2, second().because(4));
        Nightjar between = new Nightjar();
        between.set(0, 100);
        int[][] rows = {{0, 1}, {0, 1}, {0, 3}, {1, 1}, {0, 2}, {2, 1}, {2, 2}};
        for (int[] row : rows) {
            Logs.add(between, 0, row[0], 0, row[1]);
        }
        between.learn(70);
        tellsCause(between, 2, 0, 0, 2, 2, 1000 - 400);
        tellsCause(between, 2, 1, 1, 1, 0, 500);
        // Line 2 is in the scene, but not of the cause; line 3 is of the cause, but not there.
        CHECK.same("the last line that is both of the cause and in the scene", 1, between.because(4));
    }

    /** Template 1 has the causes 0 and 2, but line 4 has only one of 2 in its scene. */
    private static Nightjar second() {
        Nightjar x = new Nightjar();
        x.set(0, 100);
        Logs.add(x, 0, 0, 0, 1);
        Logs.add(x, 0, 0, 0, 3);
        Logs.add(x, 0, 1, 0, 2);
        Logs.add(x, 0, 0, 0, 3);
        Logs.add(x, 0, 1, 0, 3);
        x.learn(70);
        return x;
    }

    private static void becauseOfNone() {
        CHECK.about("22: -1 if there is none");
        CHECK.same("the first line of all", -1, nineteen().because(0));
        CHECK.same("a template without causes", -1, learnedAll().because(69));
        Nightjar x = Logs.some();
        CHECK.same("a line of a template with a cause", 1, x.because(2));
        Logs.add(x, 40, 7, 0, 2, 2, 2);
        x.learn(2);
        CHECK.same("another line of that, with an empty scene", -1, x.because(6));
        CHECK.about("22: or it is of no TEMPLATE");
        CHECK.same("a line that is not learned", -1, Logs.some().because(5));
        Nightjar none = nineteen();
        Logs.add(none, 19, 0, 0, 900, 901);
        none.learn(1);
        CHECK.same("a line of none", -1, none.because(20));
    }

    private static void becauseArguments() {
        CHECK.about("22: Throws IndexOutOfBoundsException if there is no such LINE");
        CHECK.range("no line yet", INDEX, 0, -1, Nightjar::new, (x, n) -> x.because(n));
        CHECK.range("nothing learned", INDEX, 0, 69, EdgesOfCausesTest::notLearned, (x, n) -> x.because(n));
        CHECK.range("some", INDEX, 0, 5, Logs::some, (x, n) -> x.because(n));
        CHECK.range("all", INDEX, 0, 69, Logs::most, (x, n) -> x.because(n));
    }
}
