/** Point 3 of the terms, and promises 14 to 17: ofSession, inSession, usual, meanSession. */
final class SessionsTest {
    private static final Check CHECK = new Check();
    private static final Class<IllegalArgumentException> ARGUMENT = IllegalArgumentException.class;
    private static final Class<IndexOutOfBoundsException> INDEX = IndexOutOfBoundsException.class;

    public static void main(String[] args) {
        gapDivides();
        keysAreSharedByTemplates();
        brokenOnes();
        ofSessionTells();
        pathsAreCompared();
        inSessionTells();
        usualIsTold();
        meanIsNotCut();
        CHECK.end("SessionsTest");
    }

    private static void gapDivides() {
        Nightjar x = new Nightjar();
        x.set(1, 10);
        Logs.add(x, 0, 0, 0, 1, 50);
        Logs.add(x, 10, 0, 0, 1, 50);
        Logs.add(x, 15, 0, 0, 1, 51);
        Logs.add(x, 20, 0, 0, 1, 50);
        Logs.add(x, 31, 0, 0, 1, 50);
        Logs.add(x, 31, 0, 0, 1, 50);
        Logs.add(x, 31, 0, 0, 1, 50);
        x.learn(6);
        int[] due = {0, 0, 1, 0, 2, 2, -1};
        for (int line = 0; line < due.length; line++) {
            CHECK.same("the session of line " + line, due[line], x.ofLine(line, 6));
        }
        x.set(1, 11);
        CHECK.same("sessions with a GAP of 11", 2, x.many(3));
        x.set(1, 9);
        CHECK.same("sessions with a GAP of 9", 5, x.many(3));
        x.set(1, 0);
        CHECK.same("lines of one time with a GAP of 0", x.ofLine(4, 6), x.ofLine(5, 6));
    }

    private static void keysAreSharedByTemplates() {
        Nightjar x = new Nightjar();
        Logs.add(x, 0, 0, 0, 1, 50);
        Logs.add(x, 1, 0, 0, 60, 2, 3);
        Logs.add(x, 2, 0, 0, 1, 60);
        Logs.add(x, 3, 0, 0, 50, 2, 3);
        Logs.add(x, 4, 0, 0, 0);
        x.learn(5);
        CHECK.same("sessions of two templates", 2, x.many(3));
        CHECK.same("line 3 goes on with line 0", 0, x.ofLine(3, 6));
        CHECK.same("line 2 goes on with line 1", 1, x.ofLine(2, 6));
        CHECK.same("a line without a key", -1, x.ofLine(4, 6));
    }

    private static void brokenOnes() {
        Nightjar x = new Nightjar();
        Logs.add(x, 0, 0, 2, 1, 50);
        Logs.add(x, 0, 0, 3, 1, 51);
        Logs.add(x, 0, 0, 3, 1, 51);
        Logs.add(x, 0, 0, 3, 1, 52);
        Logs.add(x, 0, 0, 0, 1, 52);
        Logs.add(x, 0, 0, 3, 2);
        x.learn(6);
        CHECK.same("sessions", 3, x.many(3));
        CHECK.same("broken ones", 2, x.many(4));
        CHECK.same("broken ones, the first session among them", 3, fourSessions().many(4));
        // Settings that change nothing here must not be counted twice.
        x.set(1, 29);
        x.set(1, 30);
        int[] worst = {0, 2, 1};
        for (int s = 0; s < 3; s++) {
            CHECK.same("lines of level 3 in session " + s, worst[s], x.ofSession(s, 4));
        }
    }

    /** Keys 50, 51 and 0; paths 0 1 0, 0 1 and 0 1, then 0 alone. */
    private static Nightjar fourSessions() {
        Nightjar x = eightSessions();
        // Nothing may be left of the sessions that there were before.
        x.set(1, 30);
        return x;
    }

    private static Nightjar eightSessions() {
        Nightjar x = new Nightjar();
        x.set(1, 0);
        Logs.add(x, 1, 0, 0, 1, 50);
        Logs.add(x, 2, 0, 3, 1, 51);
        Logs.add(x, 3, 0, 0, 50, 2, 3);
        Logs.add(x, 4, 0, 0, 1, 0);
        Logs.add(x, 5, 0, 1, 51, 2, 3);
        Logs.add(x, 6, 0, 3, 1, 50);
        Logs.add(x, 7, 0, 3, 0, 2, 3);
        Logs.add(x, 99, 0, 0, 1, 51);
        x.learn(70);
        return x;
    }

    private static void ofSessionTells() {
        Nightjar x = fourSessions();
        CHECK.same("sessions with a GAP of 0", 8, eightSessions().many(3));
        int[][] due = {
            {50, 1, 6, 3, 1, 2, 1}, {51, 2, 5, 2, 1, 2, 2}, {0, 4, 7, 2, 1, 2, 2}, {51, 99, 99, 1, 0, 1, 1},
        };
        CHECK.same("sessions", 4, x.many(3));
        for (int s = 0; s < 4; s++) {
            for (int what = 0; what <= 6; what++) {
                CHECK.same("ofSession(" + s + ", " + what + ")", due[s][what], x.ofSession(s, what));
            }
        }
        for (int session : new int[] {-1, 4, 70, Integer.MAX_VALUE, Integer.MIN_VALUE}) {
            CHECK.refuses("ofSession(" + session + ", 0)", INDEX, SessionsTest::fourSessions,
                y -> y.ofSession(session, 0));
            CHECK.refuses("ofSession(" + session + ", 7)", INDEX, SessionsTest::fourSessions,
                y -> y.ofSession(session, 7));
        }
        for (int what : new int[] {-1, 7, Integer.MAX_VALUE}) {
            CHECK.refuses("ofSession(0, " + what + ")", ARGUMENT, SessionsTest::fourSessions,
                y -> y.ofSession(0, what));
        }
        CHECK.refuses("ofSession(0, 0) without sessions", INDEX, () -> Logs.same(3, 1), y -> y.ofSession(0, 0));
    }

    /** The same templates in another order are another path. */
    private static void pathsAreCompared() {
        Nightjar x = new Nightjar();
        Logs.add(x, 0, 0, 0, 1, 50);
        Logs.add(x, 0, 0, 0, 51, 2, 3);
        Logs.add(x, 0, 0, 0, 50, 2, 3);
        Logs.add(x, 0, 0, 0, 1, 51);
        Logs.add(x, 0, 0, 0, 52, 2, 3);
        x.learn(5);
        CHECK.same("sessions with the path 0 1", 1, x.ofSession(0, 6));
        CHECK.same("sessions with the path 1 0", 1, x.ofSession(1, 6));
        CHECK.same("templates of the path 1 0", 2, x.ofSession(1, 5));
        CHECK.same("templates of the path 1", 1, x.ofSession(2, 5));
    }

    private static void inSessionTells() {
        Nightjar x = fourSessions();
        int[][] due = {{0, 2, 5}, {1, 4}, {3, 6}, {7}};
        for (int s = 0; s < 4; s++) {
            for (int place = 0; place < due[s].length; place++) {
                CHECK.same("inSession(" + s + ", " + place + ")", due[s][place], x.inSession(s, place));
            }
        }
        int[][] wrong = {{-1, 0}, {4, 0}, {0, -1}, {0, 3}, {3, 1}, {0, Integer.MAX_VALUE}, {0, Integer.MIN_VALUE}};
        for (int[] w : wrong) {
            CHECK.refuses("inSession(" + w[0] + ", " + w[1] + ")", INDEX, SessionsTest::fourSessions,
                y -> y.inSession(w[0], w[1]));
        }
    }

    private static void usualIsTold() {
        CHECK.same("the usual session", 1, fourSessions().usual());
        CHECK.same("the usual session without any", -1, Logs.same(3, 1, 2).usual());
        Nightjar x = new Nightjar();
        Logs.add(x, 0, 0, 0, 1, 50);
        Logs.add(x, 0, 0, 0, 50, 2, 3);
        Logs.add(x, 0, 0, 0, 1, 51);
        Logs.add(x, 0, 0, 0, 52, 2, 3);
        x.learn(4);
        CHECK.same("the smallest number of several", 0, x.usual());
        Logs.add(x, 0, 0, 0, 53, 2, 3);
        x.learn(1);
        CHECK.same("the most in spite of the number", 2, x.usual());
    }

    private static void meanIsNotCut() {
        CHECK.same("mean of none", 0.0, Logs.same(3, 1, 2).meanSession());
        CHECK.same("mean of four", 2.0, fourSessions().meanSession());
        Nightjar x = new Nightjar();
        Logs.add(x, 0, 0, 0, 1, 50);
        Logs.add(x, 0, 0, 0, 1, 51);
        Logs.add(x, 0, 0, 0, 1, 50);
        Logs.add(x, 0, 0, 0, 1, 50);
        Logs.add(x, 0, 0, 0, 1, 52);
        x.learn(4);
        CHECK.same("mean of two", 2.0, x.meanSession());
        x.learn(1);
        CHECK.same("mean of three", 5.0 / 3.0, x.meanSession());
    }
}
