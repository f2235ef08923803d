import java.math.BigInteger;
import java.util.function.Supplier;

/** Each sentence of the promises 23 to 26 that names a boundary case, and what holds for all questions. */
final class EdgesOfWouldBeTest {
    private static final Check CHECK = new Check();
    private static final Class<IllegalArgumentException> ARGUMENT = IllegalArgumentException.class;
    private static final Class<IllegalStateException> STATE = IllegalStateException.class;
    private static final Class<IndexOutOfBoundsException> INDEX = IndexOutOfBoundsException.class;

    public static void main(String[] args) {
        templatesWith();
        templatesWithArguments();
        sessionsWith();
        sessionsWithArguments();
        wouldBe();
        wouldBeOfNone();
        wouldBeArguments();
        wouldBeStates();
        digest();
        questionsChangeNothing();
        CHECK.end("EdgesOfWouldBeTest");
    }

    private static Nightjar different(int lines) {
        Nightjar x = new Nightjar();
        for (int i = 0; i < lines; i++) {
            Logs.add(x, 0, 0, 0, 1, i);
        }
        return x;
    }

    private static void templatesWith() {
        CHECK.about("23: Returns how many TEMPLATES there would be, if all LINES were LEARNED anew, from none on");
        CHECK.same("no line yet, SHARE 0", 0, new Nightjar().templatesWith(0));
        CHECK.same("no line yet, SHARE 100", 0, new Nightjar().templatesWith(100));
        int[] lines = {1, 19, 20, 21, 70};
        int[] due = {1, 19, 20, 20, 20};
        for (int i = 0; i < lines.length; i++) {
            Nightjar x = different(lines[i]);
            CHECK.same(lines[i] + " lines, SHARE 100", due[i], x.templatesWith(100));
            CHECK.same(lines[i] + " lines, SHARE 51", due[i], x.templatesWith(51));
            CHECK.same(lines[i] + " lines, SHARE 50", 1, x.templatesWith(50));
            CHECK.same(lines[i] + " lines, SHARE 0", 1, x.templatesWith(0));
            x.learn(lines[i]);
            CHECK.same(lines[i] + " lines, SHARE 100, with the holes of now", due[i], x.templatesWith(100));
            CHECK.same("templates as they are", 1, x.many(2));
        }
        Nightjar empty = new Nightjar();
        empty.line(0, 0, 0);
        empty.line(0, 0, 0);
        CHECK.same("lines without words", 1, empty.templatesWith(100));
        Nightjar sizes = new Nightjar();
        for (int size = 0; size <= 8; size++) {
            sizes.line(0, 0, 0);
            for (int i = 0; i < size; i++) {
                sizes.word(5);
            }
        }
        CHECK.same("lines of nine sizes", 9, sizes.templatesWith(0));
        CHECK.same("all lines, all learned", 20, Logs.most().templatesWith(50));
        CHECK.same("all lines with SHARE 0", 1, Logs.most().templatesWith(0));
        CHECK.same("a line that is not learned, too", 5, Logs.some().templatesWith(100));
        for (int share = 0; share <= 100; share++) {
            Nightjar x = Logs.some();
            int would = x.templatesWith(share);
            x.set(0, share);
            x.forget();
            x.learn(70);
            CHECK.same("templatesWith(" + share + ")", x.many(2), would);
        }
    }

    private static void templatesWithArguments() {
        CHECK.about("23: Throws IllegalArgumentException if share is not 0 to 100");
        CHECK.range("no line yet", ARGUMENT, 0, 100, Nightjar::new, (x, n) -> x.templatesWith(n));
        CHECK.range("some", ARGUMENT, 0, 100, Logs::some, (x, n) -> x.templatesWith(n));
        CHECK.range("all", ARGUMENT, 0, 100, Logs::most, (x, n) -> x.templatesWith(n));
    }

    private static Nightjar keyed(int... times) {
        Nightjar x = new Nightjar();
        for (int time : times) {
            Logs.add(x, time, 0, 0, 1, 7);
        }
        Logs.add(x, 9999, 0, 0, 1, 8);
        x.learn(70);
        return x;
    }

    private static void sessionsWith() {
        CHECK.about("24: Returns how many SESSIONS there would be with it");
        CHECK.same("no line yet", 0, new Nightjar().sessionsWith(0));
        CHECK.same("nothing learned", 0, Logs.same(70, 1, 2).sessionsWith(1000));
        CHECK.same("lines without keys", 0, Logs.full().sessionsWith(0));
        CHECK.same("all lines with GAP 0", 70, Logs.most().sessionsWith(0));
        CHECK.same("all lines with GAP 1000", 70, Logs.most().sessionsWith(1000));
        for (int gap : new int[] {0, 1, 30, 999, 1000}) {
            Nightjar x = keyed(40, 40 + gap, 41 + gap + gap);
            CHECK.same("lines GAP and one more than GAP apart", 3, x.sessionsWith(gap));
            CHECK.same("with one more", gap < 1000 ? 2 : 3, x.sessionsWith(gap < 1000 ? gap + 1 : gap));
            CHECK.same("with one less", gap > 0 ? 4 : 3, x.sessionsWith(gap > 0 ? gap - 1 : gap));
        }
        for (int gap = 0; gap <= 40; gap++) {
            Nightjar x = keyed(0, 10, 15, 15, 25, 46, 66);
            int would = x.sessionsWith(gap);
            x.set(1, gap);
            CHECK.same("sessionsWith(" + gap + ")", x.many(3), would);
        }
    }

    private static void sessionsWithArguments() {
        CHECK.about("24: Throws IllegalArgumentException if gap is not 0 to 1000");
        CHECK.range("no line yet", ARGUMENT, 0, 1000, Nightjar::new, (x, n) -> x.sessionsWith(n));
        CHECK.range("some", ARGUMENT, 0, 1000, Logs::some, (x, n) -> x.sessionsWith(n));
        CHECK.range("all", ARGUMENT, 0, 1000, Logs::most, (x, n) -> x.sessionsWith(n));
    }

    private static void wouldBe() {
        CHECK.about("25: Returns the TEMPLATE that it would be of, if it was LEARNED next (the number of a new one, too)");
        Nightjar none = different(70);
        CHECK.same("no template yet, line 0", 0, none.wouldBe(0));
        CHECK.same("no template yet, line 69", 0, none.wouldBe(69));
        none.set(0, 100);
        for (int learned = 1; learned < 20; learned++) {
            none.learn(1);
            CHECK.same("a new one behind " + learned, learned, none.wouldBe(69));
            CHECK.same("templates as they are", learned, none.many(2));
        }
        none.learn(1);
        CHECK.same("no room behind 20", -1, none.wouldBe(69));
        none.set(0, 50);
        CHECK.same("with SHARE 50", 0, none.wouldBe(69));
        Nightjar x = Logs.some();
        CHECK.same("the line whose turn it is", 0, x.wouldBe(5));
        Logs.add(x, 40, 0, 0, 9, 9);
        Logs.add(x, 40, 0, 0, 9, 9);
        x.line(40, 0, 0);
        CHECK.same("a line in the place of line 5", 3, x.wouldBe(6));
        CHECK.same("another one in the place of line 5", 3, x.wouldBe(7));
        CHECK.same("a line without words in the place of line 5", 2, x.wouldBe(8));
        CHECK.same("learned ones as they are", 5, x.many(1));
    }

    private static void wouldBeOfNone() {
        CHECK.about("25: -1 if of none");
        Nightjar x = Logs.full();
        Logs.add(x, 19, 0, 0, 900, 500);
        Logs.add(x, 19, 0, 0, 7, 500);
        x.line(19, 0, 0);
        CHECK.same("one place is not enough", -1, x.wouldBe(20));
        CHECK.same("a line of a template that there is", 7, x.wouldBe(21));
        CHECK.same("a line without words", -1, x.wouldBe(22));
        x.set(0, 50);
        CHECK.same("one place is enough", 0, x.wouldBe(20));
    }

    private static void wouldBeArguments() {
        CHECK.about("25: Throws IndexOutOfBoundsException if there is no such LINE");
        CHECK.range("no line yet", INDEX, 0, -1, Nightjar::new, (x, n) -> x.wouldBe(n));
        CHECK.range("nothing learned", INDEX, 0, 69, () -> different(70), (x, n) -> x.wouldBe(n));
        CHECK.refuses("line 6 of some", INDEX, Logs::some, x -> x.wouldBe(6));
        CHECK.refuses("line -1 of some", INDEX, Logs::some, x -> x.wouldBe(-1));
        CHECK.refuses("line 70 of all", INDEX, Logs::most, x -> x.wouldBe(70));
        CHECK.refuses("line -1 of all", INDEX, Logs::most, x -> x.wouldBe(-1));
    }

    private static Nightjar lastOfNone() {
        Nightjar x = Logs.full();
        Logs.add(x, 19, 0, 0, 900, 901);
        x.learn(70);
        return x;
    }

    private static void wouldBeStates() {
        CHECK.about("25: Throws IllegalStateException if it is LEARNED");
        for (int line = 0; line < 5; line++) {
            int it = line;
            CHECK.refuses("line " + it + " of some", STATE, Logs::some, x -> x.wouldBe(it));
        }
        CHECK.refuses("line 0 of all", STATE, Logs::most, x -> x.wouldBe(0));
        CHECK.refuses("line 69 of all", STATE, Logs::most, x -> x.wouldBe(69));
        CHECK.refuses("a learned line of none", STATE, EdgesOfWouldBeTest::lastOfNone, x -> x.wouldBe(20));
        Nightjar forgotten = Logs.most();
        forgotten.forget();
        CHECK.same("a line that is forgotten", 0, forgotten.wouldBe(69));
    }

    /** The checksum by its numbers, in whole numbers without an end. */
    private static final class Sum {
        private BigInteger d = BigInteger.valueOf(58085);

        void with(int x) {
            d = d.multiply(BigInteger.valueOf(31)).add(BigInteger.valueOf(x));
        }
    }

    /** The numbers are asked one by one, in the order of the document. */
    private static BigInteger sum(Supplier<Nightjar> made) {
        Asker asker = new Asker(made);
        Sum sum = new Sum();
        for (int what = 0; what <= 5; what++) {
            sum.with(asker.next().many(what));
        }
        int lines = asker.next().many(0);
        for (int line = 0; line < lines; line++) {
            for (int what = 4; what <= 8; what++) {
                sum.with(asker.next().ofLine(line, what));
            }
            sum.with(asker.next().because(line));
        }
        int templates = asker.next().many(2);
        for (int t = 0; t < templates; t++) {
            sumTemplate(asker, sum, t);
        }
        int sessions = asker.next().many(3);
        for (int session = 0; session < sessions; session++) {
            for (int what = 0; what <= 6; what++) {
                sum.with(asker.next().ofSession(session, what));
            }
        }
        sum.with(asker.next().usual());
        int spikes = asker.next().many(5);
        for (int spike = 0; spike < spikes; spike++) {
            for (int what = 0; what <= 2; what++) {
                sum.with(asker.next().spike(spike, what));
            }
        }
        return sum.d;
    }

    private static void sumTemplate(Asker asker, Sum sum, int t) {
        sum.with(t);
        for (int what = 0; what <= 4; what++) {
            sum.with(asker.next().ofTemplate(t, what));
        }
        int places = asker.next().ofTemplate(t, 0);
        for (int place = 0; place < places; place++) {
            sum.with(asker.next().slot(t, place));
        }
        int holes = asker.next().ofTemplate(t, 1);
        for (int hole = 0; hole < holes; hole++) {
            sum.with(asker.next().values(t, hole));
        }
        int causes = asker.next().causes(t);
        sum.with(causes);
        for (int cause = 0; cause < causes; cause++) {
            for (int what = 0; what <= 3; what++) {
                sum.with(asker.next().cause(t, cause, what));
            }
        }
    }

    private static void digest() {
        CHECK.about("26: A number d starts with 58085; for each of the following numbers x, d becomes d * 31 + x");
        CHECK.same("nothing yet: 0 six times, then -1", 58085L * 31 * 31 * 31 * 31 * 31 * 31 * 31 - 1,
            new Nightjar().digest());
        CHECK.same("nothing yet", sum(Nightjar::new).longValueExact(), new Nightjar().digest());
        CHECK.about("26: which wraps around as a 64-bit integer");
        same("some", Logs::some);
        same("all", Logs::most);
        same("nineteen causes", Logs::full);
        same("a line of none", EdgesOfWouldBeTest::lastOfNone);
        same("70 lines that are not learned", () -> different(70));
    }

    private static void same(String what, Supplier<Nightjar> made) {
        BigInteger whole = sum(made);
        CHECK.same(what + ": is beyond 64 bits", 1, whole.bitLength() > 64 ? 1 : 0);
        CHECK.same("digest() of " + what, whole.longValue(), made.get().digest());
    }

    private static Nightjar asked(Supplier<Nightjar> made) {
        Nightjar x = made.get();
        int last = x.many(0) - 1;
        if (last >= 0) {
            for (int what = 0; what <= 8; what++) {
                x.ofLine(last, what);
            }
            x.because(last);
        }
        if (x.many(2) > 0) {
            x.ofTemplate(0, 4);
            x.slot(0, 0);
            x.alike(0, 0);
            x.count(0, 0);
            x.causes(0);
        }
        if (x.many(3) > 0) {
            x.values(0, 0);
            x.ofSession(0, 6);
            x.inSession(0, 0);
        }
        if (x.many(5) > 0) {
            x.spike(0, 2);
        }
        if (x.many(1) <= last) {
            x.wouldBe(last);
        }
        x.usual();
        x.meanSession();
        x.templatesWith(0);
        x.templatesWith(100);
        x.sessionsWith(0);
        x.sessionsWith(1000);
        x.digest();
        return x;
    }

    private static void questionsChangeNothing() {
        CHECK.about("what would be (nothing is changed); no question changes anything");
        unchanged("nothing yet", Nightjar::new);
        unchanged("some", Logs::some);
        unchanged("all", Logs::most);
        unchanged("twenty templates", Logs::full);
        unchanged("70 lines that are not learned", () -> different(70));
    }

    private static void unchanged(String what, Supplier<Nightjar> made) {
        CHECK.same(what, Logs.picture(made), Logs.picture(() -> asked(made)));
    }
}
