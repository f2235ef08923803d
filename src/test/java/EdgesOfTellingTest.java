/**
 * Each sentence of the points 3 to 5 of the terms that names a boundary case,
 * and the sentence behind them on what all is told by.
 */
final class EdgesOfTellingTest {
    private static final Check CHECK = new Check();

    public static void main(String[] args) {
        keysOfSessions();
        gaps();
        theLastLineThere();
        theLatestSession();
        numbersOfSessions();
        brokenSessions();
        paths();
        windows();
        threeOrMore();
        twiceTheCount();
        fourWindows();
        windowsBelowZero();
        smallerNumbers();
        learnedOnes();
        timesOfScenes();
        sourcesAndKeysOfScenes();
        hits();
        rests();
        scores();
        anotherOne();
        orderOfCauses();
        asTheyAreNow();
        nothingIsLeft();
        CHECK.end("EdgesOfTellingTest");
    }

    /** Lines {1, key} of level 0, all learned; each row is a time and a key. */
    private static Nightjar keyed(int gap, int[]... rows) {
        Nightjar x = new Nightjar();
        x.set(1, gap);
        for (int[] row : rows) {
            Logs.add(x, row[0], 0, 0, 1, row[1]);
        }
        x.learn(70);
        return x;
    }

    private static void keysOfSessions() {
        CHECK.about("3: SESSIONS, of all LINES with a KEY of 0 or more");
        Nightjar x = keyed(30, new int[] {0, 0}, new int[] {0, 999});
        CHECK.same("the session of key 0", 0, x.ofLine(0, 6));
        CHECK.same("the session of key 999", 1, x.ofLine(1, 6));
        Nightjar none = Logs.same(70, 1, 2);
        none.learn(70);
        CHECK.same("the session of key -1", -1, none.ofLine(69, 6));
        CHECK.same("sessions of 70 lines without keys", 0, none.many(3));
    }

    private static void gaps() {
        CHECK.about("3: if its TIME is at most GAP above that of the last LINE there");
        for (int gap : new int[] {0, 1, 30, 999, 1000}) {
            Nightjar x = keyed(gap, new int[] {50, 7}, new int[] {50 + gap, 7}, new int[] {51 + gap + gap, 7},
                new int[] {9999, 8});
            CHECK.same("as much above as GAP " + gap, 0, x.ofLine(1, 6));
            CHECK.same("one more above than GAP " + gap, 1, x.ofLine(2, 6));
        }
        Nightjar same = keyed(0, new int[] {9999, 7}, new int[] {9999, 7}, new int[] {9999, 8});
        CHECK.same("the same time with GAP 0", 0, same.ofLine(1, 6));
        CHECK.same("the same time with another key", 1, same.ofLine(2, 6));
        Nightjar far = keyed(1000, new int[] {0, 7}, new int[] {0, 8}, new int[] {9999, 7});
        CHECK.same("as far away as can be", 2, far.ofLine(2, 6));
    }

    private static void theLastLineThere() {
        CHECK.about("3: of the last LINE there");
        int[][] rows = new int[70][];
        for (int i = 0; i < 70; i++) {
            rows[i] = new int[] {i * 10, i == 69 ? 8 : 7};
        }
        Nightjar x = keyed(10, rows);
        CHECK.same("the session of a line far from the first one there", 0, x.ofLine(68, 6));
        CHECK.same("sessions", 2, x.many(3));
    }

    private static void theLatestSession() {
        CHECK.about("3: a LINE is in the latest SESSION of its KEY; otherwise it begins a new one");
        Nightjar x = keyed(0, new int[] {1, 7}, new int[] {2, 8}, new int[] {2, 7}, new int[] {2, 8}, new int[] {2, 7},
            new int[] {3, 7});
        int[] due = {0, 1, 2, 1, 2, 3};
        for (int line = 0; line < due.length; line++) {
            CHECK.same("the session of line " + line, due[line], x.ofLine(line, 6));
        }
    }

    private static void numbersOfSessions() {
        CHECK.about("3: They are numbered from 0 by their first LINES");
        Nightjar x = Logs.most();
        for (int session = 0; session < 70; session++) {
            CHECK.same("the first line of session " + session, session, x.inSession(session, 0));
        }
        Nightjar later = keyed(1000, new int[] {0, 9}, new int[] {0, 3}, new int[] {0, 9}, new int[] {0, 1});
        CHECK.same("the key of session 0", 9, later.ofSession(0, 0));
        CHECK.same("the key of session 1", 3, later.ofSession(1, 0));
        CHECK.same("the key of session 2", 1, later.ofSession(2, 0));
    }

    private static void brokenSessions() {
        CHECK.about("3: A SESSION is BROKEN, if it has a LINE of LEVEL 3");
        for (int level = 0; level <= 3; level++) {
            for (int place = 0; place < 3; place++) {
                Nightjar x = new Nightjar();
                for (int i = 0; i < 3; i++) {
                    Logs.add(x, 0, 0, i == place ? level : 0, 1, 7);
                }
                Logs.add(x, 0, 0, 0, 1, 8);
                x.learn(70);
                String what = "broken ones with level " + level + " at place " + place;
                CHECK.same(what, level == 3 ? 1 : 0, x.many(4));
            }
        }
        Nightjar x = new Nightjar();
        for (int i = 0; i < 70; i++) {
            Logs.add(x, 0, 0, 3, 1, 7);
        }
        x.learn(70);
        CHECK.same("broken ones without a session", 0, x.many(4));
    }

    /** Each row is a key and the first word; each first word is a template of two words. */
    private static Nightjar pathsOf(int[]... rows) {
        Nightjar x = new Nightjar();
        for (int i = 0; i < 3; i++) {
            Logs.add(x, 0, 0, 0, i, 900 + 2 * i);
            Logs.add(x, 0, 0, 0, i, 901 + 2 * i);
        }
        for (int[] row : rows) {
            Logs.add(x, 5, 0, 0, row[1], row[0]);
        }
        x.learn(70);
        return x;
    }

    private static void paths() {
        CHECK.about("3: Its PATH is the row of TEMPLATES of its LINES");
        Nightjar x = pathsOf(new int[] {1, 0}, new int[] {1, 2}, new int[] {2, 2}, new int[] {2, 0}, new int[] {3, 0},
            new int[] {3, 2}, new int[] {4, 0}, new int[] {4, 2}, new int[] {4, 2}, new int[] {5, 0}, new int[] {6, 0},
            new int[] {6, 1});
        // Sessions 0 to 5 are those of the lines that make the holes.
        int[] due = {3, 3, 2, 2, 2, 2, 2, 1, 2, 1, 3, 1};
        CHECK.same("sessions", due.length, x.many(3));
        for (int session = 0; session < due.length; session++) {
            CHECK.same("sessions with the path of " + session, due[session], x.ofSession(session, 6));
        }
        Nightjar fewer = keyed(0, new int[] {0, 7}, new int[] {0, 8}, new int[] {1, 7});
        CHECK.same("sessions of one line with GAP 0", 3, fewer.ofSession(1, 6));
        fewer.set(1, 1);
        CHECK.same("sessions of one line with GAP 1", 1, fewer.ofSession(1, 6));
        CHECK.same("sessions of two lines with GAP 1", 1, fewer.ofSession(0, 6));
    }

    private static void windows() {
        CHECK.about("4: WINDOWS are numbered from 0; the WINDOW of a LINE is its TIME / WIDTH");
        Nightjar x = new Nightjar();
        int[] times = {0, 1, 999, 1000, 9999};
        for (int time : times) {
            x.line(time, 0, 0);
        }
        int[] widths = {1, 2, 999, 1000};
        for (int width : widths) {
            x.set(2, width);
            for (int line = 0; line < times.length; line++) {
                CHECK.same("the window of time " + times[line] + " with width " + width, times[line] / width,
                    x.ofLine(line, 7));
            }
        }
        CHECK.same("the last window with width 1000", 9, x.ofLine(4, 7));
        CHECK.about("4: The COUNT of a TEMPLATE in a WINDOW is how many of its LINES are in it");
        Nightjar all = Logs.same(70, 1);
        all.learn(70);
        CHECK.same("the first window", 10, all.count(0, 0));
        CHECK.same("the last one", 10, all.count(0, 6));
        CHECK.same("one behind all", 0, all.count(0, 7));
        all.set(2, 70);
        CHECK.same("a window with all", 70, all.count(0, 0));
    }

    /** So many lines of a word in each of the windows of width 10. */
    private static Nightjar counts(int... lines) {
        Nightjar x = new Nightjar();
        for (int window = 0; window < lines.length; window++) {
            for (int i = 0; i < lines[window]; i++) {
                Logs.add(x, window * 10 + 9, 0, 0, 1);
            }
        }
        x.learn(70);
        return x;
    }

    private static void threeOrMore() {
        CHECK.about("4: It SPIKES there, if the COUNT is 3 or more");
        CHECK.same("spikes of 1", 0, counts(1).many(5));
        CHECK.same("spikes of 2", 0, counts(2).many(5));
        CHECK.same("spikes of 3", 1, counts(3).many(5));
        CHECK.same("spikes of 4", 1, counts(4).many(5));
        CHECK.same("spikes of 70", 1, counts(70).many(5));
        CHECK.same("spikes of 2 far behind", 0, counts(0, 0, 0, 0, 0, 0, 2).many(5));
        CHECK.same("spikes of 3 far behind", 1, counts(0, 0, 0, 0, 0, 0, 3).many(5));
        Nightjar none = differentLines();
        CHECK.same("spikes of lines of no template", 0, none.many(5));
    }

    /** Twenty templates with a line each, then three lines of none in the same window. */
    private static Nightjar differentLines() {
        Nightjar x = Logs.full();
        for (int i = 0; i < 3; i++) {
            Logs.add(x, 19, 0, 0, 900, 901);
        }
        x.learn(70);
        return x;
    }

    private static void twiceTheCount() {
        CHECK.about("4: and twice the COUNT is more than the sum of its COUNTS");
        for (int count = 3; count <= 10; count++) {
            int[][] ahead = {
                {2 * count - 3, 1, 1, 0}, {2 * count - 3, 1, 1, 1}, {0, 0, 0, 2 * count}, {1, 1, 1, 2 * count - 2},
            };
            int[] due = {1, 0, 0, 0};
            for (int i = 0; i < ahead.length; i++) {
                Nightjar x = counts(ahead[i][0], ahead[i][1], ahead[i][2], ahead[i][3], count);
                int last = x.many(5) - 1;
                int got = last >= 0 && x.spike(last, 0) == 4 ? 1 : 0;
                CHECK.same("spikes of " + count + " behind row " + i, due[i], got);
            }
        }
        Nightjar other = counts(7);
        other.set(0, 100);
        for (int i = 0; i < 3; i++) {
            Logs.add(other, 10, 0, 0, 2);
        }
        other.learn(70);
        CHECK.same("spikes of 3 behind 7 of another template", 2, other.many(5));
    }

    private static void fourWindows() {
        CHECK.about("4: in the four WINDOWS with the numbers just below");
        CHECK.same("6 just below", 1, counts(6, 3).many(5));
        CHECK.same("6 in the second one below", 1, counts(6, 0, 3).many(5));
        CHECK.same("6 in the third one below", 1, counts(6, 0, 0, 3).many(5));
        CHECK.same("6 in the fourth one below", 1, counts(6, 0, 0, 0, 3).many(5));
        CHECK.same("6 in the fifth one below", 2, counts(6, 0, 0, 0, 0, 3).many(5));
        CHECK.same("6 in the window itself", 1, counts(0, 0, 0, 0, 6).many(5));
        CHECK.same("6 in the window above", 2, counts(0, 0, 0, 0, 3, 6).many(5));
    }

    private static void windowsBelowZero() {
        CHECK.about("4: (0 in those below 0)");
        for (int window = 0; window <= 4; window++) {
            int[] lines = new int[window + 1];
            lines[window] = 3;
            Nightjar x = counts(lines);
            CHECK.same("spikes of 3 in window " + window, 1, x.many(5));
            CHECK.same("its window", window, x.spike(0, 0));
            lines[0] += window > 0 ? 6 : 0;
            CHECK.same("spikes of 3 in window " + window + " behind 6 in window 0", 1, counts(lines).many(5));
        }
    }

    /** Each row is a time, a source and its words. */
    private static Nightjar rows(int[]... rows) {
        Nightjar x = new Nightjar();
        for (int[] row : rows) {
            x.line(row[0], row[1], 0);
            for (int i = 2; i < row.length; i++) {
                x.word(row[i]);
            }
        }
        return x;
    }

    private static void smallerNumbers() {
        CHECK.about("5: The SCENE of a LINE are the LINES with smaller numbers");
        Nightjar x = new Nightjar();
        for (int i = 0; i < 70; i++) {
            x.line(5, 0, 0);
        }
        x.learn(70);
        for (int line = 0; line < 70; line++) {
            CHECK.same("the scene of line " + line, line, x.ofLine(line, 8));
        }
    }

    private static void learnedOnes() {
        CHECK.about("5: that are LEARNED (of a TEMPLATE or of none); the LINE itself LEARNED or not");
        Nightjar x = Logs.same(4, 1);
        CHECK.same("nothing is learned", 0, x.ofLine(3, 8));
        for (int learned = 1; learned <= 4; learned++) {
            x.learn(1);
            CHECK.same("the last line, " + learned + " learned", learned < 3 ? learned : 3, x.ofLine(3, 8));
            CHECK.same("line 1, " + learned + " learned", 1, x.ofLine(1, 8));
        }
        Nightjar none = differentLines();
        none.set(3, 0);
        CHECK.same("lines of none, and the last one of a template", 3, none.ofLine(22, 8));
    }

    private static void timesOfScenes() {
        CHECK.about("5: with a TIME not below its own less BACK");
        Nightjar x = rows(new int[] {0, 0}, new int[] {999, 0}, new int[] {1000, 0}, new int[] {1019, 0},
            new int[] {1020, 0}, new int[] {1020, 0}, new int[] {1999, 0}, new int[] {2000, 0});
        x.learn(70);
        int[] backs = {0, 1, 19, 20, 21, 979, 980, 999, 1000};
        int[][] due = {
            {0, 0, 0, 0, 0, 1, 0, 0}, {0, 0, 1, 0, 1, 2, 0, 1}, {0, 0, 1, 1, 1, 2, 0, 1}, {0, 0, 1, 2, 2, 3, 0, 1},
            {0, 0, 1, 2, 3, 4, 0, 1}, {0, 0, 1, 2, 3, 4, 2, 1}, {0, 0, 1, 2, 3, 4, 3, 3}, {0, 1, 1, 2, 3, 4, 4, 4},
            {0, 1, 2, 2, 3, 4, 5, 5},
        };
        for (int b = 0; b < backs.length; b++) {
            x.set(3, backs[b]);
            for (int line = 0; line < 8; line++) {
                CHECK.same("the scene of line " + line + " with BACK " + backs[b], due[b][line], x.ofLine(line, 8));
            }
        }
    }

    private static void sourcesAndKeysOfScenes() {
        CHECK.about("5: and with either the same SOURCE, or the same KEY, if that is 0 or more (or both)");
        int[][] lines = {{0, 0, 1, 0}, {0, 7, 1, 0}, {0, 0, 1, 999}, {0, 0, 1, 0}, {0, 3, 1, 999}, {0, 3, 2}};
        Nightjar x = rows(lines);
        x.learn(70);
        int[] due = {0, 1, 1, 3, 1, 1};
        for (int line = 0; line < due.length; line++) {
            CHECK.same("the scene of line " + line, due[line], x.ofLine(line, 8));
        }
        Nightjar none = rows(new int[] {0, 0, 1}, new int[] {0, 1, 1}, new int[] {0, 2, 1, 2}, new int[] {0, 3});
        none.learn(70);
        for (int line = 0; line < 4; line++) {
            CHECK.same("the scene of line " + line + " without keys", 0, none.ofLine(line, 8));
        }
    }

    /** The words are templates of their own; all is learned. */
    private static Nightjar alone(int[]... rows) {
        Nightjar x = rows(rows);
        x.set(0, 100);
        x.learn(70);
        return x;
    }

    private static void tells(Nightjar x, int template, int cause, int... due) {
        for (int what = 0; what <= 3; what++) {
            CHECK.same("cause(" + template + ", " + cause + ", " + what + ")", due[what],
                x.cause(template, cause, what));
        }
    }

    private static void hits() {
        CHECK.about("5: HITS are how many LINES of e have one of c in their SCENE");
        Nightjar x = alone(new int[] {0, 0, 1}, new int[] {0, 0, 1}, new int[] {0, 0, 2}, new int[] {0, 1, 2},
            new int[] {0, 2, 3}, new int[] {0, 3, 3});
        tells(x, 1, 0, 0, 1, 1, 500 - 250);
        Nightjar all = Logs.same(1, 1);
        all.set(0, 100);
        for (int i = 0; i < 69; i++) {
            Logs.add(all, 0, 0, 0, 2);
        }
        all.learn(70);
        tells(all, 1, 0, 0, 69, 0, 1000);
        Nightjar first = alone(new int[] {0, 0, 1}, new int[] {0, 1, 2}, new int[] {0, 1, 1}, new int[] {0, 2, 2});
        CHECK.same("causes of template 0", 1, first.causes(0));
        tells(first, 0, 0, 1, 1, 0, 500);
    }

    private static void rests() {
        CHECK.about("5: REST is how many LEARNED LINES that are not of e (those of c, and of none, too) have one of c");
        Nightjar x = alone(new int[] {0, 0, 1}, new int[] {0, 1, 2}, new int[] {0, 0, 2}, new int[] {0, 2, 3},
            new int[] {0, 3, 3});
        tells(x, 1, 0, 0, 1, 0, 500);
        Logs.add(x, 0, 0, 0, 1);
        tells(x, 1, 0, 0, 1, 0, 500);
        x.learn(1);
        tells(x, 1, 0, 0, 1, 1, 500 - 250);
        Nightjar none = Logs.full();
        Logs.add(none, 19, 0, 0, 700, 700);
        Logs.add(none, 19, 1, 0, 700, 700);
        tells(none, 1, 0, 0, 1, 18, 1000 - 18000 / 19);
        none.learn(1);
        tells(none, 1, 0, 0, 1, 19, 1000 - 19000 / 20);
        none.learn(1);
        tells(none, 1, 0, 0, 1, 19, 1000 - 19000 / 21);
        Nightjar behind = Logs.full();
        Logs.add(behind, 500, 0, 0, 700, 700);
        Logs.add(behind, 500, 0, 0, 5, 500);
        Logs.add(behind, 500, 0, 0, 19, 500);
        behind.learn(70);
        // Line 21 has but the line of none in its scene, line 22 has both.
        CHECK.same("because of a line of none", -1, behind.because(21));
        tells(behind, 19, 0, 18, 1, 0, 500);
        tells(behind, 19, 3, 5, 2, 13, 1000 - 13000 / 21);
        CHECK.same("causes of template 5", 0, behind.causes(5));
    }

    private static void scores() {
        CHECK.about("5: The SCORE is 1000 * HITS / (..) - 1000 * REST / (..), each / cut towards 0");
        Nightjar x = alone(new int[] {0, 0, 1}, new int[] {0, 0, 1}, new int[] {0, 0, 2}, new int[] {0, 0, 2},
            new int[] {0, 1, 2}, new int[] {0, 2, 3});
        tells(x, 1, 0, 0, 2, 1, 666 - 333);
        CHECK.about("5: without any this is 0");
        Nightjar only = Logs.same(70, 1);
        only.learn(69);
        CHECK.same("causes where all learned ones are of e", 0, only.causes(0));
        CHECK.same("because where all learned ones are of e", -1, only.because(68));
        CHECK.about("5: The CAUSES of e are all c with a SCORE above 0");
        CHECK.same("causes with a SCORE of 333 - 666", 0, alone(new int[] {0, 0, 1}, new int[] {0, 0, 1},
            new int[] {0, 0, 1}, new int[] {0, 0, 2}, new int[] {0, 1, 2}, new int[] {0, 2, 2}).causes(1));
        CHECK.same("causes with a SCORE of 500 - 500", 0, alone(new int[] {0, 0, 1}, new int[] {0, 0, 1},
            new int[] {0, 0, 2}, new int[] {0, 1, 2}).causes(1));
        // HITS 16 of 21, REST 19 of 25: 761 - 760.
        int[][] rows = new int[46][];
        for (int i = 0; i < rows.length; i++) {
            int word = i == 0 ? 1 : i <= 21 ? 2 : 3;
            rows[i] = new int[] {0, i <= 16 || i > 21 && i <= 40 ? 0 : word, word};
        }
        Nightjar one = alone(rows);
        CHECK.same("causes with a SCORE of 1", 1, one.causes(1));
        tells(one, 1, 0, 0, 16, 19, 1);
    }

    private static void anotherOne() {
        CHECK.about("5: For a TEMPLATE e and another one, c");
        Nightjar x = alone(new int[] {0, 0, 1}, new int[] {0, 0, 1}, new int[] {0, 1, 2}, new int[] {0, 1, 2});
        CHECK.same("causes of template 0", 0, x.causes(0));
        CHECK.same("causes of template 1", 0, x.causes(1));
    }

    /** Each of 19 templates has a line of its own of template 1 behind it. */
    private static Nightjar nineteenCauses() {
        Nightjar x = new Nightjar();
        x.set(0, 100);
        x.set(3, 0);
        for (int i = 0; i < 19; i++) {
            Logs.add(x, i, 0, 0, i);
            Logs.add(x, i, 0, 0, 999);
        }
        x.learn(70);
        return x;
    }

    private static void orderOfCauses() {
        CHECK.about("5: by SCORES, the greatest one first");
        Nightjar falling = Logs.full();
        CHECK.same("causes of the last template", 19, falling.causes(19));
        for (int cause = 0; cause < 19; cause++) {
            tells(falling, 19, cause, 18 - cause, 1, cause, 1000 - 1000 * cause / 19);
        }
        Nightjar byNumber = alone(new int[] {0, 0, 1}, new int[] {0, 1, 2}, new int[] {0, 0, 3}, new int[] {0, 1, 3},
            new int[] {0, 0, 3});
        tells(byNumber, 2, 0, 0, 2, 0, 666);
        tells(byNumber, 2, 1, 1, 1, 0, 333);
        CHECK.about("5: of several the smallest number first");
        Nightjar same = nineteenCauses();
        CHECK.same("causes with the same SCORE", 19, same.causes(1));
        for (int cause = 0; cause < 19; cause++) {
            tells(same, 1, cause, cause == 0 ? 0 : cause + 1, 1, 0, 1000 / 19);
        }
    }

    private static void asTheyAreNow() {
        CHECK.about("All is told by the TEMPLATES, KEYS and settings as they are now");
        Nightjar x = Logs.some();
        CHECK.same("sessions with GAP 30", 2, x.many(3));
        x.set(1, 8);
        CHECK.same("sessions with GAP 8", 3, x.many(3));
        x.set(1, 9);
        CHECK.same("sessions with GAP 9", 2, x.many(3));
        CHECK.same("spikes with WIDTH 10", 1, x.many(5));
        x.set(2, 9);
        CHECK.same("spikes with WIDTH 9", 0, x.many(5));
        CHECK.same("the count with WIDTH 9", 2, x.count(0, 0));
        CHECK.same("causes with BACK 20", 1, x.causes(1));
        x.set(3, 0);
        CHECK.same("causes with BACK 0", 0, x.causes(1));
        x.set(0, 100);
        CHECK.same("templates with SHARE 100", 3, x.many(2));
        CHECK.same("the template of line 1 with SHARE 100", 0, x.ofLine(1, 4));
        x.forget();
        x.learn(70);
        CHECK.same("templates that were learned with SHARE 100", 5, x.many(2));
        Nightjar y = Logs.same(2, 1, 2, 3);
        Logs.add(y, 2, 0, 0, 1, 2, 4);
        Logs.add(y, 3, 0, 0, 1, 5, 4);
        y.set(0, 30);
        y.learn(3);
        CHECK.same("sessions of the keys 3, 3 and 4", 2, y.many(3));
        y.learn(1);
        CHECK.same("sessions of the keys 2, 2, 2 and 5", 2, y.many(3));
        CHECK.same("lines of the first one", 3, y.ofSession(0, 3));
        CHECK.same("its key", 2, y.ofSession(0, 0));
    }

    /** Sixty lines of three templates of two words, with seven keys, learned with these settings. */
    private static Nightjar mixed(int... settings) {
        Nightjar x = new Nightjar();
        for (int i = 0; i < 60; i++) {
            Logs.add(x, i * 3 + i / 20 * 100, i % 3, i % 4, 100 + i * i % 5, i * 3 % 7);
        }
        setAll(x, settings);
        x.learn(70);
        return x;
    }

    private static void setAll(Nightjar x, int... settings) {
        for (int what = 0; what < 4; what++) {
            x.set(what, settings[what]);
        }
    }

    private static void nothingIsLeft() {
        CHECK.about("as they are now: nothing is left of the settings, sessions, spikes and causes that were before");
        int[][] rows = {
            {50, 0, 1, 0}, {50, 1000, 1000, 1000}, {50, 30, 10, 20}, {50, 0, 1000, 3}, {50, 9, 30, 0}, {50, 21, 60, 9},
            {50, 1000, 1, 1000}, {50, 40, 100, 100},
        };
        for (int[] before : rows) {
            for (int[] now : rows) {
                Nightjar x = mixed(before);
                setAll(x, now);
                Nightjar due = mixed(now);
                String what = "settings of GAP " + before[1] + ", then of GAP " + now[1];
                CHECK.same(what, due.digest(), x.digest());
                for (int session = 0; session < due.many(3); session++) {
                    int last = due.ofSession(session, 3) - 1;
                    CHECK.same(what + ", session " + session, due.inSession(session, last), x.inSession(session, last));
                }
            }
        }
    }
}
