/** Promises 23 to 26: templatesWith, sessionsWith, wouldBe, digest. */
final class WouldBeTest {
    private static final Check CHECK = new Check();
    private static final Class<IllegalArgumentException> ARGUMENT = IllegalArgumentException.class;
    private static final Class<IllegalStateException> STATE = IllegalStateException.class;
    private static final Class<IndexOutOfBoundsException> INDEX = IndexOutOfBoundsException.class;

    public static void main(String[] args) {
        templatesWithCounts();
        sessionsWithCounts();
        wouldBeTells();
        wouldBeOfNone();
        nothingIsChanged();
        digestOfANewObject();
        digestOfALog();
        digestChanges();
        CHECK.end("WouldBeTest");
    }

    private static Nightjar halfLearned() {
        Nightjar x = new Nightjar();
        Logs.add(x, 0, 0, 0, 1, 2, 3, 4);
        Logs.add(x, 5, 0, 0, 1, 2, 3, 5);
        Logs.add(x, 10, 0, 0, 1, 2, 6, 5);
        Logs.add(x, 20, 0, 0, 7, 8, 6, 5);
        Logs.add(x, 30, 0, 0, 9);
        x.learn(2);
        return x;
    }

    private static void templatesWithCounts() {
        Nightjar x = halfLearned();
        int[] shares = {0, 1, 25, 50, 51, 75, 76, 100};
        // Line 3 has nothing that template 0 has left, once lines 1 and 2 are of it.
        int[] due = {2, 3, 3, 3, 4, 4, 5, 5};
        for (int i = 0; i < shares.length; i++) {
            CHECK.same("templatesWith(" + shares[i] + ")", due[i], x.templatesWith(shares[i]));
        }
        CHECK.same("templates as they are", 1, x.many(2));
        CHECK.same("learned ones as they are", 2, x.many(1));
        Nightjar many = new Nightjar();
        for (int i = 0; i < 25; i++) {
            Logs.add(many, 0, 0, 0, i);
        }
        CHECK.same("no more than twenty", 20, many.templatesWith(100));
        CHECK.same("with SHARE 0", 1, many.templatesWith(0));
        for (int share : new int[] {-1, 101, Integer.MAX_VALUE, Integer.MIN_VALUE}) {
            CHECK.refuses("templatesWith(" + share + ")", ARGUMENT, WouldBeTest::halfLearned,
                y -> y.templatesWith(share));
        }
    }

    private static Nightjar keyed() {
        Nightjar x = new Nightjar();
        Logs.add(x, 0, 0, 0, 1, 50);
        Logs.add(x, 10, 0, 0, 1, 50);
        Logs.add(x, 15, 0, 0, 1, 0);
        Logs.add(x, 30, 0, 0, 1, 50);
        Logs.add(x, 30, 0, 0, 1, 50);
        Logs.add(x, 9000, 0, 0, 1, 52);
        x.learn(5);
        return x;
    }

    private static void sessionsWithCounts() {
        Nightjar x = keyed();
        int[] gaps = {0, 9, 10, 19, 20, 30, 1000};
        int[] due = {4, 4, 3, 3, 2, 2, 2};
        for (int i = 0; i < gaps.length; i++) {
            CHECK.same("sessionsWith(" + gaps[i] + ")", due[i], x.sessionsWith(gaps[i]));
        }
        x.set(1, 0);
        CHECK.same("sessionsWith(20) with a GAP of 0", 2, x.sessionsWith(20));
        CHECK.same("sessions with a GAP of 0", 4, x.many(3));
        CHECK.same("sessionsWith() without keys", 0, Logs.same(3, 1).sessionsWith(5));
        for (int gap : new int[] {-1, 1001, Integer.MAX_VALUE, Integer.MIN_VALUE}) {
            CHECK.refuses("sessionsWith(" + gap + ")", ARGUMENT, WouldBeTest::keyed, y -> y.sessionsWith(gap));
        }
    }

    private static void wouldBeTells() {
        Nightjar x = halfLearned();
        CHECK.same("a line that is next", 0, x.wouldBe(2));
        CHECK.same("a line of a new template", 1, x.wouldBe(3));
        CHECK.same("a line out of its turn", 1, x.wouldBe(4));
        x.set(0, 100);
        CHECK.same("with another SHARE", 1, x.wouldBe(2));
        x.set(0, 0);
        CHECK.same("with SHARE 0", 0, x.wouldBe(3));
        for (int line : new int[] {-1, 5, 70, Integer.MAX_VALUE, Integer.MIN_VALUE}) {
            CHECK.refuses("wouldBe(" + line + ")", INDEX, WouldBeTest::halfLearned, y -> y.wouldBe(line));
        }
        CHECK.refuses("wouldBe(0), learned", STATE, WouldBeTest::halfLearned, y -> y.wouldBe(0));
        CHECK.refuses("wouldBe(1), learned", STATE, WouldBeTest::halfLearned, y -> y.wouldBe(1));
        x.forget();
        CHECK.same("without templates", 0, x.wouldBe(0));
    }

    private static void wouldBeOfNone() {
        Nightjar x = Logs.full();
        Logs.add(x, 50, 0, 0, 700, 700);
        Logs.add(x, 50, 0, 0, 7, 500);
        CHECK.same("a line of none", -1, x.wouldBe(20));
        CHECK.same("a line of a template that there is", 7, x.wouldBe(21));
        x.learn(1);
        CHECK.fails("wouldBe of a learned line of none", STATE, () -> x.wouldBe(20));
    }

    private static Nightjar halfLearnedAndAsked() {
        Nightjar x = halfLearned();
        x.templatesWith(0);
        x.templatesWith(100);
        x.sessionsWith(0);
        x.wouldBe(2);
        x.wouldBe(3);
        return x;
    }

    private static void nothingIsChanged() {
        CHECK.same("what stands behind these calls", Logs.picture(WouldBeTest::halfLearned),
            Logs.picture(WouldBeTest::halfLearnedAndAsked));
    }

    private static long sum(int... numbers) {
        long d = 58085;
        for (int x : numbers) {
            d = d * 31 + x;
        }
        return d;
    }

    private static void digestOfANewObject() {
        CHECK.same("digest() of a new object", sum(0, 0, 0, 0, 0, 0, -1), new Nightjar().digest());
    }

    private static void digestOfALog() {
        Nightjar x = new Nightjar();
        Logs.add(x, 0, 0, 1, 1, 50);
        Logs.add(x, 1, 0, 3, 1, 51);
        Logs.add(x, 2, 0, 0, 1, 51);
        Logs.add(x, 12, 0, 2, 4);
        Logs.add(x, 13, 1, 2, 4);
        x.learn(4);
        CHECK.same("digest() of a log", sum(
            5, 4, 2, 2, 1, 1,
            0, 50, 0, 0, 0, -1,
            0, 51, 1, 0, 1, -1,
            0, 51, 1, 0, 2, -1,
            1, -1, -1, 1, 3, 2,
            -1, -1, -1, 1, 0, -1,
            0, 2, 1, 3, 0, 3, 1, -1, 2, 0,
            1, 1, 0, 1, 3, 2, 4, 1, 0, 1, 2, 334,
            50, 0, 0, 1, 0, 1, 1,
            51, 1, 2, 2, 1, 1, 1,
            0,
            0, 0, 3), x.digest());
    }

    private static void digestChanges() {
        Nightjar x = halfLearned();
        long before = x.digest();
        CHECK.same("digest() again", before, x.digest());
        x.learn(1);
        CHECK.same("another digest() behind a change", 1, x.digest() == before ? 0 : 1);
    }
}
