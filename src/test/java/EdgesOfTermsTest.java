/**
 * Each sentence of "What it is" and of "Terms" that names a boundary case.
 * What begins with a number stands in the point of the terms with that number.
 */
final class EdgesOfTermsTest {
    private static final Check CHECK = new Check();
    private static final Class<IllegalArgumentException> ARGUMENT = IllegalArgumentException.class;
    private static final Class<IllegalStateException> STATE = IllegalStateException.class;
    private static final Class<IndexOutOfBoundsException> INDEX = IndexOutOfBoundsException.class;

    public static void main(String[] args) {
        calls();
        division();
        lines();
        times();
        sourcesAndLevels();
        words();
        settings();
        templates();
        learnedInOrder();
        placesAndWords();
        theMostPlaces();
        theShareThatIsNeeded();
        holes();
        newTemplates();
        noRoomForATemplate();
        keys();
        keysOfNone();
        CHECK.end("EdgesOfTermsTest");
    }

    private static void calls() {
        CHECK.about("An object is used for at most 512 calls after it has been made");
        Nightjar once = Logs.same(70, 3);
        once.learn(70);
        Nightjar x = Logs.same(70, 3);
        for (int i = 0; i < 185; i++) {
            x.learn(70);
            x.forget();
        }
        CHECK.same("call 511, learn(70)", 70, x.learn(70));
        CHECK.same("call 512, digest()", once.digest(), x.digest());
        Nightjar set = new Nightjar();
        for (int call = 1; call <= 511; call++) {
            set.set(1, call);
        }
        CHECK.same("call 512, set(1, 0)", 511, set.set(1, 0));
        Nightjar refused = new Nightjar();
        for (int call = 1; call <= 511; call++) {
            CHECK.fails("call " + call + ", refused", ARGUMENT, () -> refused.line(-1, 0, 0));
        }
        CHECK.same("call 512, line(0, 0, 0)", 0, refused.line(0, 0, 0));
    }

    private static void division() {
        CHECK.about("All numbers are whole. / is cut towards 0");
        Nightjar x = new Nightjar();
        x.line(0, 0, 0);
        x.line(9, 0, 0);
        x.line(19, 0, 0);
        x.line(9999, 0, 0);
        int[] due = {0, 0, 1, 999};
        for (int line = 0; line < due.length; line++) {
            CHECK.same("the window of line " + line, due[line], x.ofLine(line, 7));
        }
    }

    private static void lines() {
        CHECK.about("1: LINES. At most 70, numbered from 0");
        Nightjar x = new Nightjar();
        for (int line = 0; line < 70; line++) {
            CHECK.same("line " + line, line, x.line(0, 0, 0));
        }
        CHECK.fails("line 70", STATE, () -> x.line(0, 0, 0));
        CHECK.same("lines", 70, x.many(0));
        CHECK.refuses("one more than the most", STATE, Logs::most, y -> y.line(9999, 0, 0));
    }

    private static void times() {
        CHECK.about("1: each with a TIME, 0 to 9999");
        CHECK.range("a time", ARGUMENT, 0, 9999, Nightjar::new, (x, n) -> x.line(n, 0, 0));
        for (int time : new int[] {0, 1, 9998, 9999}) {
            Nightjar x = new Nightjar();
            x.line(time, 0, 0);
            CHECK.same("the time that is told", time, x.ofLine(0, 0));
        }
        CHECK.about("1: not below that of the one ahead");
        CHECK.same("the time of the one ahead", 6, Logs.some().line(40, 0, 0));
        CHECK.same("one more", 6, Logs.some().line(41, 0, 0));
        CHECK.refuses("one less", STATE, Logs::some, x -> x.line(39, 0, 0));
        CHECK.refuses("the time of the first line", STATE, Logs::some, x -> x.line(0, 0, 0));
        Nightjar last = new Nightjar();
        last.line(9999, 0, 0);
        CHECK.same("the last time, twice", 1, last.line(9999, 0, 0));
        CHECK.fails("the last time but one", STATE, () -> last.line(9998, 0, 0));
    }

    private static void sourcesAndLevels() {
        CHECK.about("1: a SOURCE, 0 to 7");
        CHECK.range("a source", ARGUMENT, 0, 7, Logs::some, (x, n) -> x.line(40, n, 0));
        Nightjar sources = new Nightjar();
        for (int source = 0; source <= 7; source++) {
            sources.line(0, source, 0);
            CHECK.same("the source that is told", source, sources.ofLine(source, 1));
        }
        CHECK.about("1: a LEVEL, 0 to 3");
        CHECK.range("a level", ARGUMENT, 0, 3, Logs::some, (x, n) -> x.line(40, 0, n));
        Nightjar levels = new Nightjar();
        for (int level = 0; level <= 3; level++) {
            levels.line(0, 0, level);
            CHECK.same("the level that is told", level, levels.ofLine(level, 2));
        }
    }

    private static Nightjar eightWords() {
        Nightjar x = new Nightjar();
        Logs.add(x, 0, 0, 0, 1, 2, 3, 4, 5, 6, 7, 8);
        return x;
    }

    private static void words() {
        CHECK.about("1: and at most 8 WORDS");
        Nightjar x = new Nightjar();
        x.line(0, 0, 0);
        for (int n = 1; n <= 8; n++) {
            CHECK.same("word " + n, n, x.word(0));
        }
        CHECK.refuses("a ninth word", STATE, EdgesOfTermsTest::eightWords, y -> y.word(0));
        CHECK.same("the words that are told", 8, x.ofLine(0, 3));
        x.line(0, 0, 0);
        CHECK.same("the words of a line without words", 0, x.ofLine(1, 3));
        CHECK.about("1: each 0 to 999");
        CHECK.range("a word", ARGUMENT, 0, 999, Logs::some, (y, n) -> y.word(n));
        for (int word : new int[] {0, 1, 998, 999}) {
            Nightjar y = new Nightjar();
            Logs.add(y, 0, 0, 0, word);
            CHECK.same("the word that is told", word, y.wordAt(0, 0));
        }
    }

    private static void settings() {
        setting("1: SHARE (0 to 100; 50 at first)", 0, 0, 100, 50);
        setting("1: GAP (0 to 1000; 30)", 1, 0, 1000, 30);
        setting("1: WIDTH (1 to 1000; 10)", 2, 1, 1000, 10);
        setting("1: BACK (0 to 1000; 20)", 3, 0, 1000, 20);
    }

    private static void setting(String sentence, int what, int least, int most, int first) {
        CHECK.about(sentence);
        CHECK.range("setting " + what, ARGUMENT, least, most, Logs::some, (x, n) -> x.set(what, n));
        Nightjar x = new Nightjar();
        CHECK.same("at first", first, x.set(what, least));
        CHECK.same("the least", least, x.set(what, most));
        CHECK.same("the most", most, x.set(what, first));
    }

    private static Nightjar differentLines(int lines) {
        Nightjar x = new Nightjar();
        for (int i = 0; i < lines; i++) {
            Logs.add(x, 0, 0, 0, i);
        }
        return x;
    }

    private static void templates() {
        CHECK.about("2: TEMPLATES. At most 20, numbered from 0");
        Nightjar x = differentLines(22);
        CHECK.same("templates before the first", 0, x.many(2));
        for (int line = 0; line < 20; line++) {
            x.learn(1);
            CHECK.same("the template of line " + line, line, x.ofLine(line, 4));
            CHECK.same("templates behind line " + line, line + 1, x.many(2));
        }
        x.learn(1);
        CHECK.same("the template of line 20", -1, x.ofLine(20, 4));
        CHECK.same("templates behind line 20", 20, x.many(2));
    }

    private static void learnedInOrder() {
        CHECK.about("2: LINES are LEARNED in order");
        Nightjar x = differentLines(4);
        for (int line = 0; line < 4; line++) {
            x.learn(1);
            for (int other = 0; other < 4; other++) {
                CHECK.same("line " + other + " behind line " + line, other <= line ? other : -1, x.ofLine(other, 4));
            }
        }
    }

    /** As many words, of which the first ones are those of each such row. */
    private static int[] row(int words, int same) {
        int[] row = new int[words];
        for (int i = 0; i < words; i++) {
            row[i] = i < same ? i : 900 + i;
        }
        return row;
    }

    private static Nightjar twoLines(int share, int[] first, int[] second) {
        Nightjar x = new Nightjar();
        x.set(0, share);
        Logs.add(x, 0, 0, 0, first);
        Logs.add(x, 0, 0, 0, second);
        x.learn(2);
        return x;
    }

    private static void placesAndWords() {
        CHECK.about("2: of the TEMPLATES with n PLACES (0, too)");
        for (int share : new int[] {0, 50, 100}) {
            for (int a = 0; a <= 8; a++) {
                for (int b = 0; b <= 8; b++) {
                    Nightjar x = twoLines(share, row(a, a), row(b, b));
                    CHECK.same("templates of " + a + " and " + b + " words", a == b ? 1 : 2, x.many(2));
                    CHECK.same("places", a, x.ofTemplate(0, 0));
                }
            }
        }
        CHECK.about("2: the one is looked for that has its WORD, no HOLE");
        Nightjar x = twoLines(0, new int[] {1, 2}, new int[] {3, 4});
        Logs.add(x, 0, 0, 0, 1, 2);
        Logs.add(x, 0, 0, 0, 0, 0);
        x.set(0, 1);
        x.learn(1);
        CHECK.same("a line with the words that made the holes", 1, x.ofLine(2, 4));
        x.learn(1);
        CHECK.same("a line of words 0", 2, x.ofLine(3, 4));
    }

    private static void theMostPlaces() {
        CHECK.about("2: at the most PLACES");
        Nightjar x = twoLines(100, new int[] {1, 2, 3, 4}, new int[] {1, 2, 9, 9});
        x.set(0, 50);
        Logs.add(x, 0, 0, 0, 1, 2, 9, 4);
        Logs.add(x, 0, 0, 0, 1, 2, 9, 9);
        x.learn(1);
        CHECK.same("three of the one, three of the other", 0, x.ofLine(2, 4));
        x.learn(1);
        CHECK.same("two of the one, four of the other", 1, x.ofLine(3, 4));
        CHECK.about("2: of several the one with the smallest number");
        Nightjar all = new Nightjar();
        all.set(0, 100);
        for (int t = 0; t < 20; t++) {
            Logs.add(all, 0, 0, 0, 1, t);
        }
        Logs.add(all, 0, 0, 0, 1, 999);
        Logs.add(all, 0, 0, 0, 998, 999);
        all.learn(20);
        all.set(0, 50);
        CHECK.same("one place of each of the twenty", 0, all.wouldBe(20));
        all.set(0, 0);
        CHECK.same("no place of any of the twenty", 0, all.wouldBe(21));
    }

    private static void theShareThatIsNeeded() {
        CHECK.about("2: if these are not fewer than (n * SHARE + 99) / 100, the LINE is of that");
        for (int n = 0; n <= 8; n++) {
            for (int share = 0; share <= 100; share++) {
                int needed = 0;
                while (100 * needed < n * share) {
                    needed++;
                }
                String what = "templates with n " + n + " and SHARE " + share;
                CHECK.same(what, 1, twoLines(share, row(n, n), row(n, needed)).many(2));
                if (needed > 0) {
                    CHECK.same(what + ", one fewer", 2, twoLines(share, row(n, n), row(n, needed - 1)).many(2));
                }
            }
        }
    }

    private static void holes() {
        CHECK.about("2: has a HOLE from now on at each PLACE at which it has another WORD");
        for (int n = 0; n <= 8; n++) {
            for (int same = 0; same <= n; same++) {
                Nightjar x = twoLines(0, row(n, n), row(n, same));
                CHECK.same("holes of " + n + " places with " + same + " same words", n - same, x.ofTemplate(0, 1));
                for (int place = 0; place < n; place++) {
                    CHECK.same("place " + place, place < same ? place : -1, x.slot(0, place));
                }
            }
        }
        Nightjar x = twoLines(50, new int[] {1, 2, 3}, new int[] {9, 2, 3});
        Logs.add(x, 0, 0, 0, 1, 2, 3);
        Logs.add(x, 0, 0, 0, 1, 2, 3);
        x.learn(2);
        CHECK.same("a hole stays one", -1, x.slot(0, 0));
        CHECK.same("holes", 1, x.ofTemplate(0, 1));
        Nightjar beside = twoLines(100, row(8, 0), row(8, 8));
        Logs.add(beside, 0, 0, 0, 900, 901, 902, 903, 904, 905, 906, 999);
        Logs.add(beside, 0, 0, 0, 999, 1, 2, 3, 4, 5, 6, 7);
        beside.set(0, 50);
        beside.learn(1);
        CHECK.same("a hole at the last place", -1, beside.slot(0, 7));
        CHECK.same("the first place of the next template", 0, beside.slot(1, 0));
        CHECK.same("holes of the next template", 0, beside.ofTemplate(1, 1));
        beside.learn(1);
        CHECK.same("a hole at the first place", -1, beside.slot(1, 0));
        CHECK.same("holes of the template ahead", 1, beside.ofTemplate(0, 1));
        CHECK.fails("hole 1 of the template ahead", INDEX, () -> beside.values(0, 1));
        Nightjar behind = twoLines(100, row(8, 0), row(8, 8));
        Logs.add(behind, 0, 0, 0, 999, 1, 2, 3, 4, 5, 6, 7);
        behind.set(0, 50);
        behind.learn(1);
        CHECK.same("the key of a line of the template ahead, which has no hole", -1, behind.ofLine(0, 5));
        CHECK.fails("hole 0 of the template ahead", INDEX, () -> behind.values(0, 0));
    }

    private static void newTemplates() {
        CHECK.about("2: Otherwise there is a new TEMPLATE with its WORDS, and it is of that");
        Nightjar x = twoLines(100, row(8, 8), row(8, 7));
        CHECK.same("the template of line 1", 1, x.ofLine(1, 4));
        for (int place = 0; place < 8; place++) {
            CHECK.same("place " + place + " of template 0", place, x.slot(0, place));
            CHECK.same("place " + place + " of template 1", place < 7 ? place : 907, x.slot(1, place));
        }
        Nightjar empty = new Nightjar();
        empty.line(0, 0, 0);
        empty.learn(1);
        CHECK.same("the template of a line without words", 0, empty.ofLine(0, 4));
    }

    private static void noRoomForATemplate() {
        CHECK.about("2: if there were 20, it is of none");
        Nightjar x = Logs.full();
        String[] before = new String[20];
        for (int t = 0; t < 20; t++) {
            before[t] = x.slot(t, 0) + " " + x.slot(t, 1) + " " + x.ofTemplate(t, 2);
        }
        Logs.add(x, 30, 0, 0, 19, 700);
        Logs.add(x, 30, 0, 0, 1, 2, 3);
        x.line(30, 0, 0);
        Logs.add(x, 30, 0, 0, 19, 500);
        CHECK.same("learned ones", 4, x.learn(4));
        for (int line = 20; line <= 22; line++) {
            CHECK.same("the template of line " + line, -1, x.ofLine(line, 4));
        }
        CHECK.same("a line of the last template still is of that", 19, x.ofLine(23, 4));
        CHECK.same("lines of the last template", 2, x.ofTemplate(19, 2));
        for (int t = 0; t < 19; t++) {
            CHECK.same("template " + t, before[t], x.slot(t, 0) + " " + x.slot(t, 1) + " " + x.ofTemplate(t, 2));
        }
        CHECK.same("learned with those of none", 24, x.many(1));
        CHECK.same("templates", 20, x.many(2));
    }

    private static void keys() {
        CHECK.about("The KEY of a LINE is its WORD at the first HOLE of its TEMPLATE");
        for (int place = 0; place < 8; place++) {
            int[] other = row(8, 8);
            other[place] = 999;
            Nightjar x = twoLines(50, row(8, 8), other);
            CHECK.same("the key of line 0, a hole at " + place, place, x.ofLine(0, 5));
            CHECK.same("the key of line 1, a hole at " + place, 999, x.ofLine(1, 5));
        }
        CHECK.about("as that is now");
        Nightjar x = twoLines(50, new int[] {1, 2, 3, 4}, new int[] {1, 2, 3, 5});
        Logs.add(x, 0, 0, 0, 1, 6, 3, 5);
        Logs.add(x, 0, 0, 0, 7, 2, 3, 5);
        CHECK.same("with a hole at 3", 4, x.ofLine(0, 5));
        x.learn(1);
        CHECK.same("with a hole at 1", 2, x.ofLine(0, 5));
        CHECK.same("with a hole at 1, the next line", 2, x.ofLine(1, 5));
        x.set(0, 25);
        x.learn(1);
        CHECK.same("with a hole at 0", 1, x.ofLine(0, 5));
        CHECK.same("with a hole at 0, the last line", 7, x.ofLine(3, 5));
    }

    private static void keysOfNone() {
        CHECK.about("-1 if it is of none");
        Nightjar x = Logs.most();
        CHECK.same("the key of a line of a template", 69, x.ofLine(69, 5));
        Nightjar none = differentLines(21);
        none.learn(21);
        CHECK.same("the key of a line of none", -1, none.ofLine(20, 5));
        CHECK.about("or that has no HOLE");
        Nightjar same = Logs.same(2, 1, 2);
        same.learn(2);
        CHECK.same("a template without holes", -1, same.ofLine(1, 5));
        CHECK.same("a template without places", -1, Logs.some().ofLine(4, 5));
        CHECK.about("or it is not LEARNED");
        CHECK.same("the key of a line that is not learned", -1, Logs.some().ofLine(5, 5));
        Nightjar forgotten = Logs.some();
        forgotten.forget();
        CHECK.same("the key of a forgotten line", -1, forgotten.ofLine(0, 5));
    }
}
