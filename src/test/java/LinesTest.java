/** Promises 2 to 9: line, word, learn, set, forget, many, ofLine, wordAt. */
final class LinesTest {
    private static final Check CHECK = new Check();
    private static final Class<IllegalArgumentException> ARGUMENT = IllegalArgumentException.class;
    private static final Class<IllegalStateException> STATE = IllegalStateException.class;
    private static final Class<IndexOutOfBoundsException> INDEX = IndexOutOfBoundsException.class;

    public static void main(String[] args) {
        lineAdds();
        lineRefuses();
        seventyAreTheMost();
        wordAdds();
        wordRefuses();
        learnTakesTheNext();
        learnRefuses();
        setSets();
        setRefuses();
        forgetForgets();
        manyCounts();
        ofLineTells();
        ofLineRefuses();
        ofLineTellsTheScene();
        keysOfNoneAreNotTheSame();
        wordAtTells();
        CHECK.end("LinesTest");
    }

    private static void lineAdds() {
        Nightjar x = new Nightjar();
        CHECK.same("the first line", 0, x.line(0, 0, 0));
        CHECK.same("a line of the same time", 1, x.line(0, 7, 3));
        CHECK.same("a line of the last time", 2, x.line(9999, 3, 2));
        CHECK.same("time", 9999, x.ofLine(2, 0));
        CHECK.same("source", 3, x.ofLine(2, 1));
        CHECK.same("level", 2, x.ofLine(2, 2));
        CHECK.same("words of a line that is new", 0, x.ofLine(2, 3));
        CHECK.same("source 7", 7, x.ofLine(1, 1));
        CHECK.same("level 3", 3, x.ofLine(1, 2));
        CHECK.same("lines", 3, x.many(0));
    }

    private static Nightjar oneLine() {
        Nightjar x = new Nightjar();
        Logs.add(x, 5, 1, 1, 7);
        return x;
    }

    private static void lineRefuses() {
        int[][] wrong = {
            {-1, 0, 0}, {10000, 0, 0}, {Integer.MIN_VALUE, 0, 0}, {Integer.MAX_VALUE, 0, 0},
            {5, -1, 0}, {5, 8, 0}, {5, 0, -1}, {5, 0, 4}, {4, 8, 0}, {4, 0, 4},
        };
        for (int[] w : wrong) {
            CHECK.refuses("line(" + w[0] + ", " + w[1] + ", " + w[2] + ")", ARGUMENT, LinesTest::oneLine,
                x -> x.line(w[0], w[1], w[2]));
        }
        CHECK.refuses("a time below the last one", STATE, LinesTest::oneLine, x -> x.line(4, 0, 0));
    }

    private static Nightjar seventyLines() {
        return Logs.same(70, 3);
    }

    private static void seventyAreTheMost() {
        Nightjar x = new Nightjar();
        for (int i = 0; i < 70; i++) {
            CHECK.same("line " + i, i, x.line(6, 0, 0));
        }
        CHECK.refuses("line 71", STATE, LinesTest::seventyLines, y -> y.line(9000, 0, 0));
        CHECK.fails("line 71 with a wrong level", ARGUMENT, () -> x.line(6, 0, 4));
        x.learn(70);
        x.forget();
        CHECK.fails("line 71 after forget()", STATE, () -> x.line(6, 0, 0));
    }

    private static void wordAdds() {
        Nightjar x = new Nightjar();
        x.line(0, 0, 0);
        for (int n = 1; n <= 8; n++) {
            CHECK.same("word " + n, n, x.word(n == 8 ? 999 : n - 1));
        }
        CHECK.same("the first word", 0, x.wordAt(0, 0));
        CHECK.same("the last word", 999, x.wordAt(0, 7));
        x.line(0, 0, 0);
        CHECK.same("the first word of the next line", 1, x.word(5));
        CHECK.same("words of the line ahead", 8, x.ofLine(0, 3));
        CHECK.same("words of the last line", 1, x.ofLine(1, 3));
    }

    private static Nightjar eightWords() {
        Nightjar x = new Nightjar();
        Logs.add(x, 0, 0, 0, 1, 2, 3, 4, 5, 6, 7, 8);
        return x;
    }

    private static Nightjar learnedLine() {
        Nightjar x = oneLine();
        x.learn(1);
        return x;
    }

    private static void wordRefuses() {
        CHECK.refuses("word without a line", STATE, Nightjar::new, x -> x.word(0));
        CHECK.refuses("a wrong word without a line", ARGUMENT, Nightjar::new, x -> x.word(-1));
        for (int word : new int[] {-1, 1000, Integer.MIN_VALUE, Integer.MAX_VALUE}) {
            CHECK.refuses("word(" + word + ")", ARGUMENT, LinesTest::oneLine, x -> x.word(word));
        }
        CHECK.refuses("a ninth word", STATE, LinesTest::eightWords, x -> x.word(9));
        CHECK.refuses("a wrong ninth word", ARGUMENT, LinesTest::eightWords, x -> x.word(1000));
        CHECK.refuses("a word for a learned line", STATE, LinesTest::learnedLine, x -> x.word(3));
        CHECK.refuses("a wrong word for a learned line", ARGUMENT, LinesTest::learnedLine, x -> x.word(1000));
        Nightjar x = learnedLine();
        x.forget();
        CHECK.same("a word for a forgotten line", 2, x.word(3));
        x.learn(1);
        x.line(5, 0, 0);
        CHECK.same("a word for a line behind a learned one", 1, x.word(3));
    }

    private static void learnTakesTheNext() {
        Nightjar x = Logs.same(5, 1, 2);
        CHECK.same("learn(1)", 1, x.learn(1));
        CHECK.same("learned ones", 1, x.many(1));
        CHECK.same("template of the learned one", 0, x.ofLine(0, 4));
        CHECK.same("template of the next one", -1, x.ofLine(1, 4));
        CHECK.same("learn(3)", 3, x.learn(3));
        CHECK.same("learn(70) of the one that is left", 1, x.learn(70));
        CHECK.same("learn(70) of none", 0, x.learn(70));
        Logs.add(x, 9, 0, 0, 9);
        CHECK.same("learn(2) of one that came later", 1, x.learn(2));
        CHECK.same("its template", 1, x.ofLine(5, 4));
        Nightjar most = seventyLines();
        CHECK.same("learn(70) of 70", 70, most.learn(70));
        CHECK.same("learned of 70", 70, most.many(1));
    }

    private static void learnRefuses() {
        for (int most : new int[] {0, -1, 71, Integer.MIN_VALUE, Integer.MAX_VALUE}) {
            CHECK.refuses("learn(" + most + ")", ARGUMENT, LinesTest::oneLine, x -> x.learn(most));
        }
    }

    private static void setSets() {
        Nightjar x = new Nightjar();
        int[] first = {50, 30, 10, 20};
        int[] least = {0, 0, 1, 0};
        int[] most = {100, 1000, 1000, 1000};
        for (int what = 0; what < 4; what++) {
            CHECK.same("setting " + what + " at first", first[what], x.set(what, least[what]));
            CHECK.same("setting " + what + " at least", least[what], x.set(what, most[what]));
            CHECK.same("setting " + what + " at most", most[what], x.set(what, 7));
            CHECK.same("setting " + what + " again", 7, x.set(what, 8));
        }
    }

    private static void setRefuses() {
        int[][] wrong = {
            {-1, 5}, {4, 5}, {0, -1}, {0, 101}, {1, -1}, {1, 1001}, {2, 0}, {2, -1}, {2, 1001}, {3, -1}, {3, 1001},
        };
        for (int[] w : wrong) {
            CHECK.refuses("set(" + w[0] + ", " + w[1] + ")", ARGUMENT, LinesTest::oneLine, x -> x.set(w[0], w[1]));
        }
    }

    private static void forgetForgets() {
        Nightjar x = Logs.same(4, 1, 2);
        Logs.add(x, 9, 0, 3, 1, 5);
        x.set(0, 40);
        x.set(1, 41);
        x.set(2, 42);
        x.set(3, 43);
        x.learn(5);
        CHECK.same("sessions before forget()", 2, x.many(3));
        CHECK.same("forget()", 5, x.forget());
        CHECK.same("lines after forget()", 5, x.many(0));
        for (int what = 1; what <= 5; what++) {
            CHECK.same("many(" + what + ") after forget()", 0, x.many(what));
        }
        CHECK.same("template after forget()", -1, x.ofLine(0, 4));
        CHECK.same("key after forget()", -1, x.ofLine(0, 5));
        CHECK.same("session after forget()", -1, x.ofLine(0, 6));
        CHECK.same("scene after forget()", 0, x.ofLine(4, 8));
        CHECK.same("words after forget()", 5, x.wordAt(4, 1));
        CHECK.same("SHARE after forget()", 40, x.set(0, 100));
        CHECK.same("GAP after forget()", 41, x.set(1, 41));
        CHECK.same("WIDTH after forget()", 42, x.set(2, 42));
        CHECK.same("BACK after forget()", 43, x.set(3, 43));
        CHECK.same("forget() again", 0, x.forget());
        x.learn(2);
        CHECK.same("forget() of two", 2, x.forget());
        CHECK.same("learn() after forget()", 5, x.learn(70));
        CHECK.same("templates with another SHARE", 2, x.many(2));
    }

    private static Nightjar someOfEach() {
        Nightjar x = new Nightjar();
        Logs.add(x, 0, 0, 0, 1, 10);
        Logs.add(x, 1, 0, 3, 1, 11);
        Logs.add(x, 2, 0, 3, 1, 11);
        Logs.add(x, 3, 0, 3, 2);
        Logs.add(x, 4, 0, 3, 3, 3, 3);
        x.learn(4);
        return x;
    }

    private static void manyCounts() {
        Nightjar x = someOfEach();
        CHECK.same("lines", 5, x.many(0));
        CHECK.same("learned", 4, x.many(1));
        CHECK.same("templates", 2, x.many(2));
        CHECK.same("sessions", 2, x.many(3));
        CHECK.same("broken sessions", 1, x.many(4));
        CHECK.same("spikes", 1, x.many(5));
        for (int what : new int[] {-1, 6, Integer.MIN_VALUE, Integer.MAX_VALUE}) {
            CHECK.refuses("many(" + what + ")", ARGUMENT, LinesTest::someOfEach, y -> y.many(what));
        }
    }

    private static void ofLineTells() {
        Nightjar x = new Nightjar();
        Logs.add(x, 19, 2, 1, 1, 10, 20);
        Logs.add(x, 20, 3, 2, 1, 10, 21);
        x.learn(1);
        tells(x, 0, 19, 2, 1, 3, 0, -1, -1, 1, 0);
        tells(x, 1, 20, 3, 2, 3, -1, -1, -1, 2, 0);
        x.learn(1);
        tells(x, 0, 19, 2, 1, 3, 0, 20, 0, 1, 0);
        tells(x, 1, 20, 3, 2, 3, 0, 21, 1, 2, 0);
        // A third line makes a hole of an earlier place, which changes the keys.
        x.set(0, 30);
        Logs.add(x, 20, 3, 2, 1, 11, 20);
        x.learn(1);
        tells(x, 0, 19, 2, 1, 3, 0, 10, 0, 1, 0);
        tells(x, 1, 20, 3, 2, 3, 0, 10, 0, 2, 1);
        tells(x, 2, 20, 3, 2, 3, 0, 11, 1, 2, 1);
        x.set(2, 1000);
        CHECK.same("a window of width 1000", 0, x.ofLine(2, 7));
        x.set(2, 1);
        CHECK.same("a window of width 1", 20, x.ofLine(2, 7));
    }

    private static void tells(Nightjar x, int line, int... due) {
        for (int what = 0; what < due.length; what++) {
            CHECK.same("ofLine(" + line + ", " + what + ")", due[what], x.ofLine(line, what));
        }
    }

    private static void ofLineRefuses() {
        for (int line : new int[] {-1, 5, 70, Integer.MAX_VALUE, Integer.MIN_VALUE}) {
            CHECK.refuses("ofLine(" + line + ", 0)", INDEX, LinesTest::someOfEach, x -> x.ofLine(line, 0));
            CHECK.refuses("ofLine(" + line + ", 9)", INDEX, LinesTest::someOfEach, x -> x.ofLine(line, 9));
        }
        for (int what : new int[] {-1, 9, Integer.MAX_VALUE}) {
            CHECK.refuses("ofLine(0, " + what + ")", ARGUMENT, LinesTest::someOfEach, x -> x.ofLine(0, what));
        }
    }

    private static void ofLineTellsTheScene() {
        Nightjar x = new Nightjar();
        Logs.add(x, 0, 0, 0, 1, 0);
        Logs.add(x, 10, 1, 0, 1, 11);
        Logs.add(x, 20, 2, 0, 1, 0);
        Logs.add(x, 20, 0, 0, 7, 7, 7);
        Logs.add(x, 20, 0, 0, 1, 0);
        Logs.add(x, 21, 0, 0, 1, 0);
        CHECK.same("a scene without learned lines", 0, x.ofLine(4, 8));
        x.learn(4);
        CHECK.same("a scene by the key, BACK just reached", 1, x.ofLine(2, 8));
        CHECK.same("a scene without key, by the source", 1, x.ofLine(3, 8));
        CHECK.same("a scene of a line that is not learned", 2, x.ofLine(4, 8));
        CHECK.same("a scene without the unlearned line ahead", 1, x.ofLine(5, 8));
        x.learn(2);
        CHECK.same("a scene by key or source, each line once", 3, x.ofLine(4, 8));
        CHECK.same("a scene without the line that is too old", 3, x.ofLine(5, 8));
        x.set(3, 0);
        CHECK.same("a scene with BACK 0", 2, x.ofLine(4, 8));
        x.set(3, 1000);
        CHECK.same("a scene with BACK 1000", 4, x.ofLine(5, 8));
        CHECK.same("a scene of other source and key", 0, x.ofLine(1, 8));
    }

    private static void keysOfNoneAreNotTheSame() {
        Nightjar x = new Nightjar();
        Logs.add(x, 0, 0, 0, 1);
        Logs.add(x, 0, 1, 0, 1);
        x.learn(2);
        CHECK.same("a scene of keys -1", 0, x.ofLine(1, 8));
    }

    private static Nightjar wordyLines() {
        Nightjar x = new Nightjar();
        Logs.add(x, 0, 0, 0, 4, 5);
        Logs.add(x, 0, 0, 0);
        Logs.add(x, 0, 0, 0, 4, 7);
        return x;
    }

    private static void wordAtTells() {
        Nightjar x = wordyLines();
        CHECK.same("wordAt(0, 0)", 4, x.wordAt(0, 0));
        CHECK.same("wordAt(0, 1)", 5, x.wordAt(0, 1));
        CHECK.same("wordAt(2, 0)", 4, x.wordAt(2, 0));
        x.learn(3);
        CHECK.same("a word at a hole", 5, x.wordAt(0, 1));
        CHECK.same("another word at a hole", 7, x.wordAt(2, 1));
        int[][] wrong = {{-1, 0}, {3, 0}, {0, -1}, {0, 2}, {1, 0}, {0, 8}, {0, Integer.MAX_VALUE}, {2, 2}};
        for (int[] w : wrong) {
            CHECK.refuses("wordAt(" + w[0] + ", " + w[1] + ")", INDEX, LinesTest::wordyLines,
                y -> y.wordAt(w[0], w[1]));
        }
    }
}
