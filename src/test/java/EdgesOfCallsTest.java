/** Each sentence of the promises 1 to 9 that names a boundary case. */
final class EdgesOfCallsTest {
    private static final Check CHECK = new Check();
    private static final Class<IllegalArgumentException> ARGUMENT = IllegalArgumentException.class;
    private static final Class<IllegalStateException> STATE = IllegalStateException.class;
    private static final Class<IndexOutOfBoundsException> INDEX = IndexOutOfBoundsException.class;

    public static void main(String[] args) {
        newObject();
        line();
        lineArguments();
        lineStates();
        word();
        wordArguments();
        wordStates();
        learn();
        learnArguments();
        set();
        setArguments();
        forget();
        forgetKeepsSettings();
        many();
        manyArguments();
        ofLine();
        ofLineArguments();
        wordAt();
        wordAtArguments();
        CHECK.end("EdgesOfCallsTest");
    }

    private static void newObject() {
        CHECK.about("1: Creates a reader without LINES");
        Nightjar x = new Nightjar();
        for (int what = 0; what <= 5; what++) {
            CHECK.same("many(" + what + ")", 0, x.many(what));
        }
        CHECK.same("the first line", 0, x.line(0, 0, 0));
    }

    private static void line() {
        CHECK.about("2: Adds a LINE without WORDS");
        Nightjar x = new Nightjar();
        Logs.add(x, 0, 7, 3, 1, 2, 3, 4, 5, 6, 7, 8);
        x.line(0, 0, 0);
        CHECK.same("words of the line behind a full one", 0, x.ofLine(1, 3));
        CHECK.about("2: Returns its number");
        Nightjar all = Logs.same(69, 1);
        all.learn(70);
        CHECK.same("the number of the last line that there can be", 69, all.line(9999, 7, 3));
    }

    private static void lineArguments() {
        CHECK.about("2: Throws IllegalArgumentException if time is not 0 to 9999");
        CHECK.range("time, no line yet", ARGUMENT, 0, 9999, Nightjar::new, (x, n) -> x.line(n, 7, 3));
        CHECK.refuses("time -1, all lines", ARGUMENT, Logs::most, x -> x.line(-1, 0, 0));
        CHECK.refuses("time 10000, all lines", ARGUMENT, Logs::most, x -> x.line(10000, 0, 0));
        CHECK.refuses("time -1, which is below the last one, too", ARGUMENT, Logs::some, x -> x.line(-1, 0, 0));
        CHECK.about("2: source is not 0 to 7");
        CHECK.range("source, no line yet", ARGUMENT, 0, 7, Nightjar::new, (x, n) -> x.line(0, n, 0));
        CHECK.refuses("source 8, all lines", ARGUMENT, Logs::most, x -> x.line(9999, 8, 0));
        CHECK.refuses("source -1, all lines", ARGUMENT, Logs::most, x -> x.line(9999, -1, 0));
        CHECK.refuses("source 8, time below the last one", ARGUMENT, Logs::some, x -> x.line(39, 8, 0));
        CHECK.about("2: or level is not 0 to 3");
        CHECK.range("level, no line yet", ARGUMENT, 0, 3, Nightjar::new, (x, n) -> x.line(0, 0, n));
        CHECK.refuses("level 4, all lines", ARGUMENT, Logs::most, x -> x.line(9999, 0, 4));
        CHECK.refuses("level -1, all lines", ARGUMENT, Logs::most, x -> x.line(9999, 0, -1));
        CHECK.refuses("level 4, time below the last one", ARGUMENT, Logs::some, x -> x.line(39, 0, 4));
    }

    private static Nightjar allLines() {
        return Logs.same(70, 3);
    }

    private static Nightjar allButOne() {
        return Logs.same(69, 3);
    }

    private static void lineStates() {
        CHECK.about("2: Throws IllegalStateException if there are 70");
        CHECK.same("the 70th", 69, allButOne().line(69, 0, 0));
        CHECK.refuses("the 71st", STATE, EdgesOfCallsTest::allLines, x -> x.line(70, 0, 0));
        CHECK.refuses("the 71st, all learned", STATE, Logs::most, x -> x.line(9999, 7, 3));
        Nightjar forgotten = Logs.most();
        forgotten.forget();
        CHECK.fails("the 71st behind forget()", STATE, () -> forgotten.line(9999, 0, 0));
        CHECK.about("2: or time is below that of the last one");
        CHECK.same("the time of the last one", 69, allButOne().line(68, 0, 0));
        CHECK.refuses("one below", STATE, EdgesOfCallsTest::allButOne, x -> x.line(67, 0, 0));
        CHECK.refuses("0", STATE, EdgesOfCallsTest::allButOne, x -> x.line(0, 0, 0));
        Nightjar first = new Nightjar();
        first.line(9999, 0, 0);
        CHECK.fails("one below the only one", STATE, () -> first.line(9998, 0, 0));
        CHECK.same("as much as the only one", 1, first.line(9999, 0, 0));
        CHECK.refuses("one below, and there are 70", STATE, EdgesOfCallsTest::allLines, x -> x.line(68, 0, 0));
    }

    private static Nightjar withWords(int words) {
        Nightjar x = new Nightjar();
        Logs.add(x, 0, 0, 0, 4, 4);
        x.line(0, 0, 0);
        for (int i = 0; i < words; i++) {
            x.word(i);
        }
        return x;
    }

    private static Nightjar fullLine() {
        return withWords(8);
    }

    private static Nightjar learned(int words) {
        Nightjar x = withWords(words);
        x.learn(2);
        return x;
    }

    private static Nightjar learnedEmptyLine() {
        return learned(0);
    }

    private static Nightjar learnedFullLine() {
        return learned(8);
    }

    /** The last line is of none, as there are twenty templates. */
    private static Nightjar lastOfNone() {
        Nightjar x = Logs.full();
        Logs.add(x, 20, 0, 0, 900, 901);
        x.learn(70);
        return x;
    }

    private static void word() {
        CHECK.about("3: Adds a WORD to the last LINE. Returns how many it has then");
        for (int words = 0; words < 8; words++) {
            Nightjar x = withWords(words);
            CHECK.same("words", words + 1, x.word(999));
            CHECK.same("words of the line ahead", 2, x.ofLine(0, 3));
            CHECK.same("words that are told", words + 1, x.ofLine(1, 3));
            CHECK.same("the word that is told", 999, x.wordAt(1, words));
        }
        Nightjar all = allButOne();
        all.line(9999, 0, 0);
        for (int words = 1; words <= 8; words++) {
            CHECK.same("words of line 69", words, all.word(0));
        }
    }

    private static void wordArguments() {
        CHECK.about("3: Throws IllegalArgumentException if word is not 0 to 999");
        CHECK.range("word", ARGUMENT, 0, 999, () -> withWords(7), (x, n) -> x.word(n));
        CHECK.refuses("1000 without a line", ARGUMENT, Nightjar::new, x -> x.word(1000));
        CHECK.refuses("-1 without a line", ARGUMENT, Nightjar::new, x -> x.word(-1));
        CHECK.refuses("1000 behind 8", ARGUMENT, EdgesOfCallsTest::fullLine, x -> x.word(1000));
        CHECK.refuses("-1 behind 8", ARGUMENT, EdgesOfCallsTest::fullLine, x -> x.word(-1));
        CHECK.refuses("1000 for a learned line", ARGUMENT, Logs::most, x -> x.word(1000));
        CHECK.refuses("-1 for a learned line", ARGUMENT, Logs::most, x -> x.word(-1));
    }

    private static void wordStates() {
        CHECK.about("3: Throws IllegalStateException if there is no LINE");
        CHECK.refuses("word(0)", STATE, Nightjar::new, x -> x.word(0));
        CHECK.refuses("word(999)", STATE, Nightjar::new, x -> x.word(999));
        CHECK.about("3: or the last one has 8");
        CHECK.same("the eighth word", 8, withWords(7).word(0));
        CHECK.refuses("the ninth word", STATE, EdgesOfCallsTest::fullLine, x -> x.word(0));
        Nightjar next = fullLine();
        next.line(0, 0, 0);
        CHECK.same("a word for the line behind", 1, next.word(0));
        Nightjar forgotten = learnedFullLine();
        forgotten.forget();
        CHECK.fails("the ninth word behind forget()", STATE, () -> forgotten.word(0));
        CHECK.about("3: or is LEARNED");
        CHECK.refuses("a line without words", STATE, EdgesOfCallsTest::learnedEmptyLine, x -> x.word(0));
        CHECK.refuses("a line with 8 words", STATE, EdgesOfCallsTest::learnedFullLine, x -> x.word(0));
        CHECK.refuses("a line of none", STATE, EdgesOfCallsTest::lastOfNone, x -> x.word(0));
        CHECK.refuses("line 69", STATE, Logs::most, x -> x.word(0));
        Nightjar ahead = withWords(1);
        ahead.learn(1);
        CHECK.same("only the line ahead is learned", 2, ahead.word(0));
        Nightjar again = learnedEmptyLine();
        again.forget();
        CHECK.same("a forgotten line", 1, again.word(0));
    }

    private static void learn() {
        CHECK.about("4: LEARNS the next LINES, how many at most. Returns how many were LEARNED");
        CHECK.same("learn(1) without lines", 0, new Nightjar().learn(1));
        CHECK.same("learn(70) without lines", 0, new Nightjar().learn(70));
        CHECK.same("learn(1) with all learned", 0, Logs.most().learn(1));
        CHECK.same("learn(70) with all learned", 0, Logs.most().learn(70));
        int[] most = {1, 2, 68, 69, 70};
        int[] taken = {1, 2, 68, 69, 69};
        for (int i = 0; i < most.length; i++) {
            Nightjar x = allButOne();
            CHECK.same("learn(" + most[i] + ") of 69", taken[i], x.learn(most[i]));
            CHECK.same("learned ones", taken[i], x.many(1));
            CHECK.same("learn(70) of those that are left", 69 - taken[i], x.learn(70));
        }
        CHECK.same("learn(70) of 70", 70, allLines().learn(70));
        CHECK.same("learn(69) of 70", 69, allLines().learn(69));
    }

    private static void learnArguments() {
        CHECK.about("4: Throws IllegalArgumentException if most is not 1 to 70");
        CHECK.range("without lines", ARGUMENT, 1, 70, Nightjar::new, (x, n) -> x.learn(n));
        CHECK.range("with a line that is left", ARGUMENT, 1, 70, Logs::some, (x, n) -> x.learn(n));
        CHECK.range("with all lines to learn", ARGUMENT, 1, 70, EdgesOfCallsTest::allLines, (x, n) -> x.learn(n));
        CHECK.range("with all learned", ARGUMENT, 1, 70, Logs::most, (x, n) -> x.learn(n));
    }

    private static void set() {
        CHECK.about("5: what it is from now on. Returns what it was");
        int[] least = {0, 0, 1, 0};
        int[] most = {100, 1000, 1000, 1000};
        for (int what = 0; what < 4; what++) {
            Nightjar x = Logs.most();
            x.set(what, least[what]);
            for (int other = 0; other < 4; other++) {
                if (other != what) {
                    x.set(other, most[other]);
                }
            }
            CHECK.same("setting " + what + " at its least", least[what], x.set(what, most[what]));
            CHECK.same("setting " + what + " at its most", most[what], x.set(what, most[what]));
            CHECK.same("setting " + what + " as before", most[what], x.set(what, least[what]));
        }
    }

    private static void setArguments() {
        CHECK.about("5: Throws IllegalArgumentException if what is not 0 to 3");
        CHECK.range("what", ARGUMENT, 0, 3, Logs::some, (x, n) -> x.set(n, 1));
        CHECK.range("what, no line yet", ARGUMENT, 0, 3, Nightjar::new, (x, n) -> x.set(n, 100));
        CHECK.refuses("both out of range", ARGUMENT, Logs::some, x -> x.set(4, 1001));
        CHECK.refuses("both below their ranges", ARGUMENT, Logs::some, x -> x.set(-1, -1));
        CHECK.about("5: or n is out of its range");
        int[] least = {0, 0, 1, 0};
        int[] most = {100, 1000, 1000, 1000};
        for (int what = 0; what < 4; what++) {
            int it = what;
            CHECK.range("setting " + what + ", no line yet", ARGUMENT, least[what], most[what], Nightjar::new,
                (x, n) -> x.set(it, n));
            CHECK.range("setting " + what + ", all lines", ARGUMENT, least[what], most[what], Logs::most,
                (x, n) -> x.set(it, n));
        }
    }

    private static void forget() {
        CHECK.about("6: Returns how many LINES were LEARNED");
        CHECK.same("forget() without lines", 0, new Nightjar().forget());
        CHECK.same("forget() without learned lines", 0, allLines().forget());
        CHECK.same("forget() of five", 5, Logs.some().forget());
        CHECK.same("forget() of one of none, too", 21, lastOfNone().forget());
        CHECK.same("forget() of all", 70, Logs.most().forget());
        CHECK.about("6: Forgets all TEMPLATES: none are there, and no LINE is LEARNED");
        Nightjar x = Logs.most();
        x.forget();
        CHECK.same("lines", 70, x.many(0));
        for (int what = 1; what <= 5; what++) {
            CHECK.same("many(" + what + ")", 0, x.many(what));
        }
        CHECK.fails("ofTemplate(0, 0)", INDEX, () -> x.ofTemplate(0, 0));
        CHECK.fails("ofSession(0, 0)", INDEX, () -> x.ofSession(0, 0));
        CHECK.fails("spike(0, 0)", INDEX, () -> x.spike(0, 0));
        CHECK.same("the template of line 69", -1, x.ofLine(69, 4));
        CHECK.same("the key of line 69", -1, x.ofLine(69, 5));
        CHECK.same("the session of line 69", -1, x.ofLine(69, 6));
        CHECK.same("the scene of line 69", 0, x.ofLine(69, 8));
        CHECK.same("because(69)", -1, x.because(69));
        CHECK.same("forget() again", 0, x.forget());
        x.learn(70);
        CHECK.same("all is as before once it is learned again", Logs.most().digest(), x.digest());
        for (int before = 0; before <= 100; before += 10) {
            for (int share = 0; share <= 100; share += 10) {
                Nightjar again = differentSizes(before);
                again.forget();
                again.set(0, share);
                again.learn(70);
                CHECK.same("SHARE " + before + ", then " + share, differentSizes(share).digest(), again.digest());
            }
        }
    }

    /** The same template number is one of eight, of three or of one place, as SHARE is. */
    private static Nightjar differentSizes(int share) {
        Nightjar x = new Nightjar();
        x.set(0, share);
        Logs.add(x, 0, 0, 0, 1, 2, 3);
        Logs.add(x, 1, 1, 0, 4, 5, 6);
        Logs.add(x, 2, 2, 0, 4, 9, 6);
        Logs.add(x, 3, 0, 0, 1, 2, 3, 4, 5, 6, 7, 8);
        Logs.add(x, 4, 1, 0, 9, 2, 3, 4, 9, 6, 7, 9);
        Logs.add(x, 5, 2, 0, 7);
        Logs.add(x, 6, 0, 0, 7);
        x.line(7, 1, 0);
        x.learn(70);
        return x;
    }

    private static void forgetKeepsSettings() {
        CHECK.about("6: (the settings stay)");
        int[] least = {0, 0, 1, 0};
        int[] most = {100, 1000, 1000, 1000};
        Nightjar x = Logs.most();
        for (int what = 0; what < 4; what++) {
            x.set(what, most[what]);
        }
        x.forget();
        for (int what = 0; what < 4; what++) {
            CHECK.same("setting " + what + " at its most", most[what], x.set(what, least[what]));
        }
        x.forget();
        for (int what = 0; what < 4; what++) {
            CHECK.same("setting " + what + " at its least", least[what], x.set(what, least[what]));
        }
    }

    private static void many() {
        CHECK.about("7: Returns how many there are");
        int[] all = {70, 70, 20, 70, 70, 23};
        int[] some = {6, 5, 3, 2, 1, 1};
        for (int what = 0; what <= 5; what++) {
            CHECK.same("many(" + what + ") of nothing", 0, new Nightjar().many(what));
            CHECK.same("many(" + what + ") of some", some[what], Logs.some().many(what));
            CHECK.same("many(" + what + ") of all", all[what], Logs.most().many(what));
            CHECK.same("many(" + what + ") of 70 that are not learned", what == 0 ? 70 : 0, allLines().many(what));
        }
    }

    private static void manyArguments() {
        CHECK.about("7: Throws IllegalArgumentException if what is not 0 to 5");
        CHECK.range("nothing yet", ARGUMENT, 0, 5, Nightjar::new, (x, n) -> x.many(n));
        CHECK.range("some", ARGUMENT, 0, 5, Logs::some, (x, n) -> x.many(n));
        CHECK.range("all", ARGUMENT, 0, 5, Logs::most, (x, n) -> x.many(n));
    }

    private static void tells(Nightjar x, int line, int... due) {
        for (int what = 0; what <= 8; what++) {
            CHECK.same("ofLine(" + line + ", " + what + ")", due[what], x.ofLine(line, what));
        }
    }

    private static void ofLine() {
        CHECK.about("8: 0 its TIME, .. 4 its TEMPLATE (-1 ..), 5 its KEY, 6 its SESSION (-1 ..), 7 its WINDOW, 8 .. SCENE");
        Nightjar x = new Nightjar();
        x.set(2, 1);
        x.set(3, 1000);
        x.line(0, 0, 0);
        for (int i = 1; i < 69; i++) {
            x.line(9999, 7, 3);
        }
        Logs.add(x, 9999, 7, 3, 1, 2, 3, 4, 5, 6, 7, 999);
        tells(x, 0, 0, 0, 0, 0, -1, -1, -1, 0, 0);
        tells(x, 69, 9999, 7, 3, 8, -1, -1, -1, 9999, 0);
        x.learn(69);
        tells(x, 0, 0, 0, 0, 0, 0, -1, -1, 0, 0);
        tells(x, 69, 9999, 7, 3, 8, -1, -1, -1, 9999, 68);
        Nightjar all = Logs.most();
        all.set(3, 1000);
        tells(all, 0, 0, 7, 3, 2, 0, 0, 0, 0, 0);
        tells(all, 59, 950, 7, 3, 2, 19, 59, 59, 95, 59);
        tells(all, 69, 1150, 7, 3, 2, 3, 69, 69, 115, 60);
        Nightjar none = lastOfNone();
        tells(none, 20, 20, 0, 0, 2, -1, -1, -1, 2, 20);
        Nightjar key = new Nightjar();
        Logs.add(key, 0, 0, 0, 1, 999);
        Logs.add(key, 0, 0, 0, 1, 0);
        key.learn(2);
        tells(key, 0, 0, 0, 0, 2, 0, 999, 0, 0, 0);
        tells(key, 1, 0, 0, 0, 2, 0, 0, 1, 0, 1);
    }

    private static void ofLineArguments() {
        CHECK.about("8: Throws IndexOutOfBoundsException if there is no such LINE");
        CHECK.range("nothing yet", INDEX, 0, -1, Nightjar::new, (x, n) -> x.ofLine(n, 0));
        CHECK.range("some", INDEX, 0, 5, Logs::some, (x, n) -> x.ofLine(n, 8));
        CHECK.range("all", INDEX, 0, 69, Logs::most, (x, n) -> x.ofLine(n, 4));
        CHECK.range("nothing yet, and no such what", INDEX, 0, -1, Nightjar::new, (x, n) -> x.ofLine(n, 9));
        CHECK.refuses("line 6, and no such what", INDEX, Logs::some, x -> x.ofLine(6, -1));
        CHECK.refuses("line -1, and no such what", INDEX, Logs::some, x -> x.ofLine(-1, 9));
        CHECK.about("8: Throws IllegalArgumentException if what is not 0 to 8");
        CHECK.range("the first line", ARGUMENT, 0, 8, Logs::some, (x, n) -> x.ofLine(0, n));
        CHECK.range("a line that is not learned", ARGUMENT, 0, 8, Logs::some, (x, n) -> x.ofLine(5, n));
        CHECK.range("the last line of all", ARGUMENT, 0, 8, Logs::most, (x, n) -> x.ofLine(69, n));
    }

    private static void wordAt() {
        CHECK.about("9: Returns the WORD there");
        Nightjar x = new Nightjar();
        Logs.add(x, 0, 0, 0, 999, 0, 1, 2, 3, 4, 5, 998);
        Logs.add(x, 0, 0, 0, 0, 999);
        int[] due = {999, 0, 1, 2, 3, 4, 5, 998};
        for (int place = 0; place < 8; place++) {
            CHECK.same("wordAt(0, " + place + ")", due[place], x.wordAt(0, place));
        }
        CHECK.same("wordAt(1, 0)", 0, x.wordAt(1, 0));
        CHECK.same("wordAt(1, 1)", 999, x.wordAt(1, 1));
        CHECK.same("the last word of all lines", 69, Logs.most().wordAt(69, 1));
    }

    private static void wordAtArguments() {
        CHECK.about("9: Throws IndexOutOfBoundsException if there is no such LINE");
        CHECK.range("nothing yet", INDEX, 0, -1, Nightjar::new, (x, n) -> x.wordAt(n, 0));
        CHECK.range("two lines", INDEX, 0, 1, EdgesOfCallsTest::fullLine, (x, n) -> x.wordAt(n, 0));
        CHECK.range("all lines", INDEX, 0, 69, Logs::most, (x, n) -> x.wordAt(n, 1));
        CHECK.about("9: or place");
        for (int words = 0; words <= 8; words++) {
            int size = words;
            CHECK.range("a line with " + words + " words", INDEX, 0, words - 1, () -> withWords(size),
                (x, n) -> x.wordAt(1, n));
        }
        CHECK.range("a line between others", INDEX, 0, 1, Logs::most, (x, n) -> x.wordAt(30, n));
        CHECK.refuses("no such line, no such place", INDEX, Logs::some, x -> x.wordAt(6, 8));
    }
}
