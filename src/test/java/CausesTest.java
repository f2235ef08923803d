/** Point 5 of the terms, and promises 20 to 22: causes, cause, because. */
final class CausesTest {
    private static final Check CHECK = new Check();
    private static final Class<IllegalArgumentException> ARGUMENT = IllegalArgumentException.class;
    private static final Class<IndexOutOfBoundsException> INDEX = IndexOutOfBoundsException.class;

    public static void main(String[] args) {
        causesAreRanked();
        equalScoresGoByNumber();
        scoresAreCut();
        aScoreOfOne();
        keysMakeScenes();
        linesOfNoneAreTheRest();
        withoutARest();
        theFirstTemplateHasCauses();
        causesRefuse();
        becauseTells();
        becauseOfTheFirstCause();
        CHECK.end("CausesTest");
    }

    /** Each row is a time, a source and a word; each word is a template of its own. */
    private static Nightjar rows(int[][] rows) {
        Nightjar x = new Nightjar();
        x.set(0, 100);
        for (int[] row : rows) {
            Logs.add(x, row[0], row[1], 0, row[2]);
        }
        x.learn(70);
        return x;
    }

    /** Template 2 comes behind 0 twice, behind 1 once. */
    private static Nightjar ranked() {
        return rows(new int[][] {
            {0, 0, 10}, {100, 0, 11}, {105, 0, 12}, {200, 0, 10}, {220, 0, 12}, {300, 1, 10}, {301, 0, 12},
            {400, 3, 10}, {401, 3, 12}, {500, 4, 12},
        });
    }

    private static void tells(Nightjar x, int template, int cause, int... due) {
        for (int what = 0; what <= 3; what++) {
            CHECK.same("cause(" + template + ", " + cause + ", " + what + ")", due[what],
                x.cause(template, cause, what));
        }
    }

    private static void causesAreRanked() {
        Nightjar x = ranked();
        CHECK.same("causes of template 2", 2, x.causes(2));
        tells(x, 2, 0, 0, 2, 0, 400);
        tells(x, 2, 1, 1, 1, 0, 200);
        CHECK.same("causes of template 0", 0, x.causes(0));
        CHECK.same("causes of template 1", 0, x.causes(1));
        x.set(3, 19);
        CHECK.same("causes of template 2 with BACK 19", 2, x.causes(2));
        tells(x, 2, 0, 0, 1, 0, 200);
        tells(x, 2, 1, 1, 1, 0, 200);
        x.set(3, 0);
        CHECK.same("causes of template 2 with BACK 0", 0, x.causes(2));
        x.set(3, 1000);
        // With BACK 1000 the rest has template 0 in its scenes, too.
        tells(x, 2, 0, 0, 4, 2, 400);
        tells(x, 2, 1, 1, 3, 1, 400);
    }

    private static void equalScoresGoByNumber() {
        Nightjar x = rows(new int[][] {
            {0, 0, 10}, {0, 0, 11}, {0, 0, 12}, {0, 0, 13}, {100, 1, 12}, {101, 1, 11}, {101, 1, 13},
        });
        CHECK.same("causes of template 3", 3, x.causes(3));
        // HITS 1, 2 and 2 of 2; REST 2, 1 and 1 of 5.
        tells(x, 3, 0, 1, 2, 1, 800);
        tells(x, 3, 1, 2, 2, 1, 800);
        tells(x, 3, 2, 0, 1, 2, 100);
        Nightjar same = rows(new int[][] {{0, 0, 10}, {0, 0, 11}, {0, 1, 20}, {0, 0, 12}});
        CHECK.same("causes with equal HITS", 2, same.causes(3));
        tells(same, 3, 0, 1, 1, 0, 1000);
        tells(same, 3, 1, 0, 1, 1, 667);
    }

    private static void scoresAreCut() {
        // HITS 2 of 3, REST 1 of 3: 666 - 333.
        Nightjar x = rows(new int[][] {
            {0, 0, 10}, {0, 0, 10}, {0, 0, 11}, {0, 0, 11}, {0, 1, 11}, {0, 2, 12},
        });
        tells(x, 1, 0, 0, 2, 1, 333);
        // HITS 1 of 3, REST 2 of 6: 333 - 333.
        Nightjar even = rows(new int[][] {
            {0, 0, 10}, {0, 0, 11}, {0, 1, 11}, {0, 2, 11}, {0, 0, 12}, {0, 0, 12}, {0, 3, 12}, {0, 4, 12}, {0, 5, 12},
        });
        CHECK.same("a score of 333 - 333", 0, even.causes(1));
        // HITS 2 of 3, REST 4 of 7: 666 - 571.
        Nightjar close = rows(new int[][] {
            {0, 0, 10}, {0, 0, 11}, {0, 0, 11}, {0, 2, 11}, {0, 0, 12}, {0, 0, 12}, {0, 0, 12}, {0, 0, 12},
            {0, 3, 12}, {0, 4, 12},
        });
        tells(close, 1, 0, 0, 2, 4, 95);
    }

    private static void aScoreOfOne() {
        // HITS 16 of 21, REST 19 of 25: 761 - 760.
        int[][] rows = new int[46][];
        for (int i = 0; i < rows.length; i++) {
            boolean isEffect = i > 0 && i <= 21;
            boolean isBehind = i <= 16 || i > 21 && i <= 40;
            rows[i] = new int[] {0, isBehind ? 0 : isEffect ? 1 : 2, i == 0 ? 10 : isEffect ? 11 : 12};
        }
        Nightjar x = rows(rows);
        CHECK.same("causes with a SCORE of 1", 1, x.causes(1));
        tells(x, 1, 0, 0, 16, 19, 1);
    }

    private static void keysMakeScenes() {
        Nightjar x = new Nightjar();
        Logs.add(x, 0, 0, 0, 1, 50);
        Logs.add(x, 0, 1, 0, 50, 2, 3);
        Logs.add(x, 0, 2, 0, 1, 51);
        x.learn(2);
        CHECK.same("causes without keys", 0, x.causes(1));
        Logs.add(x, 0, 3, 0, 51, 2, 3);
        x.learn(2);
        CHECK.same("causes by keys", 1, x.causes(1));
        tells(x, 1, 0, 0, 2, 0, 1000);
    }

    private static void linesOfNoneAreTheRest() {
        Nightjar x = Logs.full();
        Logs.add(x, 19, 0, 0, 700, 700);
        Logs.add(x, 19, 1, 0, 700, 700);
        // Template 1 has template 0 in its scene, and so have 2 to 19.
        CHECK.same("causes of template 1", 1, x.causes(1));
        tells(x, 1, 0, 0, 1, 18, 1000 - 18000 / 19);
        x.learn(2);
        tells(x, 1, 0, 0, 1, 19, 1000 - 19000 / 21);
        CHECK.same("causes of the last template", 19, x.causes(19));
        tells(x, 19, 0, 18, 1, 1, 1000 - 1000 / 21);
        tells(x, 19, 18, 0, 1, 19, 1000 - 19000 / 21);
        for (int cause = 0; cause < 19; cause++) {
            CHECK.same("cause " + cause + " of the last template", 18 - cause, x.cause(19, cause, 0));
        }
        // A line behind one of none has nothing that could be a cause.
        Logs.add(x, 19, 1, 0, 19, 500);
        x.learn(1);
        CHECK.same("causes of the last template then", 10, x.causes(19));
        tells(x, 19, 9, 9, 1, 10, 500 - 10000 / 21);
        CHECK.same("because of a line of none", -1, x.because(22));
        CHECK.same("because for a line of none", -1, x.because(20));
    }

    private static void theFirstTemplateHasCauses() {
        Nightjar x = rows(new int[][] {{0, 0, 10}, {100, 1, 11}, {100, 1, 12}, {101, 1, 10}});
        CHECK.same("causes of template 0", 1, x.causes(0));
        tells(x, 0, 0, 2, 1, 0, 500);
        CHECK.same("because of line 3", 2, x.because(3));
        Nightjar first = rows(new int[][] {{0, 0, 10}, {1, 0, 11}});
        CHECK.same("because of line 0", 0, first.because(1));
    }

    private static void withoutARest() {
        Nightjar x = Logs.same(3, 1, 2);
        x.learn(70);
        CHECK.same("a template is no cause of itself", 0, x.causes(0));
        CHECK.same("because of itself", -1, x.because(2));
    }

    private static void causesRefuse() {
        for (int template : new int[] {-1, 3, 20, Integer.MAX_VALUE, Integer.MIN_VALUE}) {
            CHECK.refuses("causes(" + template + ")", INDEX, CausesTest::ranked, x -> x.causes(template));
            CHECK.refuses("cause(" + template + ", 0, 0)", INDEX, CausesTest::ranked, x -> x.cause(template, 0, 0));
            CHECK.refuses("cause(" + template + ", 0, 4)", INDEX, CausesTest::ranked, x -> x.cause(template, 0, 4));
        }
        int[][] wrong = {{2, -1}, {2, 2}, {0, 0}, {1, 0}, {2, Integer.MAX_VALUE}, {2, Integer.MIN_VALUE}};
        for (int[] w : wrong) {
            CHECK.refuses("cause(" + w[0] + ", " + w[1] + ", 0)", INDEX, CausesTest::ranked,
                x -> x.cause(w[0], w[1], 0));
            CHECK.refuses("cause(" + w[0] + ", " + w[1] + ", -1)", INDEX, CausesTest::ranked,
                x -> x.cause(w[0], w[1], -1));
        }
        for (int what : new int[] {-1, 4, Integer.MAX_VALUE}) {
            CHECK.refuses("cause(2, 0, " + what + ")", ARGUMENT, CausesTest::ranked, x -> x.cause(2, 0, what));
        }
        for (int line : new int[] {-1, 10, 70, Integer.MAX_VALUE, Integer.MIN_VALUE}) {
            CHECK.refuses("because(" + line + ")", INDEX, CausesTest::ranked, x -> x.because(line));
        }
    }

    private static void becauseTells() {
        Nightjar x = ranked();
        int[] due = {-1, -1, 1, -1, 3, -1, -1, -1, 7, -1};
        for (int line = 0; line < due.length; line++) {
            CHECK.same("because(" + line + ")", due[line], x.because(line));
        }
        Logs.add(x, 500, 4, 0, 12);
        CHECK.same("because of a line that is not learned", -1, x.because(10));
        Logs.add(x, 510, 5, 0, 10);
        Logs.add(x, 511, 5, 0, 10);
        Logs.add(x, 511, 6, 0, 10);
        Logs.add(x, 512, 5, 0, 12);
        x.learn(70);
        CHECK.same("the last line of several", 12, x.because(14));
        x.forget();
        CHECK.same("because without templates", -1, x.because(14));
    }

    private static void becauseOfTheFirstCause() {
        // Template 0 is the first cause of 2; line 4 has a later line of template 1, too.
        Nightjar x = rows(new int[][] {
            {0, 0, 10}, {1, 0, 12}, {100, 0, 10}, {101, 0, 11}, {102, 0, 12}, {200, 1, 11}, {201, 1, 12},
            {300, 2, 10}, {301, 2, 12},
        });
        CHECK.same("template 2 is the word 11", 2, x.ofLine(3, 4));
        CHECK.same("causes", 2, x.causes(1));
        CHECK.same("the first cause", 0, x.cause(1, 0, 0));
        CHECK.same("because of the first cause", 2, x.because(4));
        CHECK.same("because of the second cause", 5, x.because(6));
    }
}
