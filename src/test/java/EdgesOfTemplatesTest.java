/** Each sentence of the promises 10 to 17 that names a boundary case. */
final class EdgesOfTemplatesTest {
    private static final Check CHECK = new Check();
    private static final Class<IllegalArgumentException> ARGUMENT = IllegalArgumentException.class;
    private static final Class<IndexOutOfBoundsException> INDEX = IndexOutOfBoundsException.class;

    public static void main(String[] args) {
        ofTemplate();
        ofTemplateArguments();
        slot();
        slotArguments();
        values();
        valuesArguments();
        alike();
        alikeArguments();
        ofSession();
        ofSessionArguments();
        inSession();
        inSessionArguments();
        usual();
        meanSession();
        CHECK.end("EdgesOfTemplatesTest");
    }

    private static Nightjar notLearned() {
        return Logs.same(70, 1, 2);
    }

    private static void tells(Nightjar x, int template, int... due) {
        for (int what = 0; what <= 4; what++) {
            CHECK.same("ofTemplate(" + template + ", " + what + ")", due[what], x.ofTemplate(template, what));
        }
    }

    /** Template 0 is that of lines without words, template 1 has eight holes. */
    private static Nightjar leastAndMost() {
        Nightjar x = new Nightjar();
        x.line(0, 0, 0);
        x.set(0, 0);
        Logs.add(x, 0, 0, 3, 0, 1, 2, 3, 4, 5, 6, 7);
        Logs.add(x, 0, 0, 0, 10, 11, 12, 13, 14, 15, 16, 17);
        for (int i = 0; i < 66; i++) {
            x.line(0, 0, 0);
        }
        Logs.add(x, 0, 0, 2, 999);
        x.learn(70);
        return x;
    }

    private static void ofTemplate() {
        CHECK.about("10: 0 how many PLACES, 1 how many HOLES, 2 how many LINES, 3 the first one, 4 the greatest LEVEL");
        Nightjar x = leastAndMost();
        tells(x, 0, 0, 0, 67, 0, 0);
        tells(x, 1, 8, 8, 2, 1, 3);
        tells(x, 2, 1, 0, 1, 69, 2);
        Nightjar all = notLearned();
        all.learn(70);
        tells(all, 0, 2, 0, 70, 0, 0);
        tells(Logs.most(), 19, 2, 1, 3, 57, 3);
        Nightjar few = Logs.some();
        tells(few, 0, 2, 1, 3, 0, 3);
        few.learn(1);
        tells(few, 0, 2, 1, 4, 0, 3);
        tells(few, 2, 0, 0, 1, 4, 2);
        for (int level = 0; level <= 3; level++) {
            Nightjar one = new Nightjar();
            Logs.add(one, 0, 0, level, 1);
            Logs.add(one, 0, 0, 0, 1);
            Logs.add(one, 0, 0, 3, 2);
            Logs.add(one, 0, 0, 3, 1);
            one.learn(3);
            tells(one, 0, 1, 0, 2, 0, level);
        }
    }

    private static void ofTemplateArguments() {
        CHECK.about("10: Throws IndexOutOfBoundsException if there is no such TEMPLATE");
        CHECK.range("no line yet", INDEX, 0, -1, Nightjar::new, (x, n) -> x.ofTemplate(n, 0));
        CHECK.range("nothing learned", INDEX, 0, -1, EdgesOfTemplatesTest::notLearned, (x, n) -> x.ofTemplate(n, 0));
        CHECK.range("some", INDEX, 0, 2, Logs::some, (x, n) -> x.ofTemplate(n, 3));
        CHECK.range("all", INDEX, 0, 19, Logs::most, (x, n) -> x.ofTemplate(n, 4));
        CHECK.range("all but one forgotten", INDEX, 0, 0, Logs::mostButForgotten, (x, n) -> x.ofTemplate(n, 0));
        CHECK.range("no such what either", INDEX, 0, -1, Nightjar::new, (x, n) -> x.ofTemplate(n, 5));
        CHECK.refuses("template 3, what -1", INDEX, Logs::some, x -> x.ofTemplate(3, -1));
        CHECK.refuses("template -1, what 5", INDEX, Logs::some, x -> x.ofTemplate(-1, 5));
        CHECK.about("10: Throws IllegalArgumentException if what is not 0 to 4");
        CHECK.range("the first template", ARGUMENT, 0, 4, Logs::some, (x, n) -> x.ofTemplate(0, n));
        CHECK.range("an empty template", ARGUMENT, 0, 4, Logs::some, (x, n) -> x.ofTemplate(2, n));
        CHECK.range("the last template of all", ARGUMENT, 0, 4, Logs::most, (x, n) -> x.ofTemplate(19, n));
    }

    /** So many places, of which the last one is a hole. */
    private static Nightjar places(int places) {
        Nightjar x = new Nightjar();
        x.set(0, 0);
        for (int line = 0; line < 2; line++) {
            x.line(0, 0, 0);
            for (int place = 0; place < places; place++) {
                x.word(place < places - 1 ? 999 * (place % 2) : line);
            }
        }
        x.learn(2);
        return x;
    }

    private static void slot() {
        CHECK.about("11: Returns the WORD there; -1 for a HOLE");
        Nightjar x = places(8);
        for (int place = 0; place < 7; place++) {
            CHECK.same("slot(0, " + place + ")", place % 2 == 0 ? 0 : 999, x.slot(0, place));
        }
        CHECK.same("slot(0, 7), a hole", -1, x.slot(0, 7));
        Nightjar all = Logs.most();
        for (int t = 0; t < 20; t++) {
            CHECK.same("slot(" + t + ", 0)", t, all.slot(t, 0));
            CHECK.same("slot(" + t + ", 1), a hole", -1, all.slot(t, 1));
        }
        for (int place = 0; place < 8; place++) {
            CHECK.same("slot(1, " + place + ") of eight holes", -1, leastAndMost().slot(1, place));
        }
    }

    private static void slotArguments() {
        CHECK.about("11: Throws IndexOutOfBoundsException if there is no such TEMPLATE");
        CHECK.range("no line yet", INDEX, 0, -1, Nightjar::new, (x, n) -> x.slot(n, 0));
        CHECK.range("nothing learned", INDEX, 0, -1, EdgesOfTemplatesTest::notLearned, (x, n) -> x.slot(n, 0));
        CHECK.range("two templates", INDEX, 0, 1, () -> {
            Nightjar x = places(2);
            Logs.add(x, 0, 0, 0, 1);
            x.learn(1);
            return x;
        }, (x, n) -> x.slot(n, 0));
        CHECK.range("all", INDEX, 0, 19, Logs::most, (x, n) -> x.slot(n, 1));
        CHECK.range("all but one forgotten", INDEX, 0, 0, Logs::mostButForgotten, (x, n) -> x.slot(n, 1));
        CHECK.about("11: or it has no such PLACE");
        for (int size = 0; size <= 8; size++) {
            int places = size;
            CHECK.range(size + " places", INDEX, 0, size - 1, () -> places(places), (x, n) -> x.slot(0, n));
        }
        CHECK.range("a template between others", INDEX, 0, 1, Logs::most, (x, n) -> x.slot(7, n));
    }

    private static void values() {
        CHECK.about("12: a HOLE of it, from 0. Returns how many WORDS, each counted once, its LINES have there");
        Nightjar x = new Nightjar();
        for (int i = 0; i < 70; i++) {
            Logs.add(x, 0, 0, 0, 5, i == 0 ? 0 : 999, 6, i % 35);
        }
        x.learn(1);
        int[] learned = {2, 3, 35, 36, 70};
        int[] due = {2, 3, 35, 35, 35};
        for (int i = 0; i < learned.length; i++) {
            x.learn(learned[i] - x.many(1));
            CHECK.same("words at hole 0 of " + learned[i] + " lines", 2, x.values(0, 0));
            CHECK.same("words at hole 1 of " + learned[i] + " lines", due[i], x.values(0, 1));
        }
        Nightjar each = new Nightjar();
        for (int i = 0; i < 70; i++) {
            Logs.add(each, 0, 0, 0, 5, i);
        }
        each.learn(70);
        CHECK.same("70 words of 70 lines", 70, each.values(0, 0));
        Nightjar eight = leastAndMost();
        for (int hole = 0; hole < 8; hole++) {
            CHECK.same("words at hole " + hole + " of eight", 2, eight.values(1, hole));
        }
        Nightjar left = Logs.some();
        CHECK.same("the word of a line that is not learned", 2, left.values(0, 0));
        left.learn(1);
        CHECK.same("once it is learned", 3, left.values(0, 0));
    }

    /** So many places, of which as many are holes, the last ones. */
    private static Nightjar holes(int places, int holes) {
        Nightjar x = new Nightjar();
        x.set(0, 0);
        for (int line = 0; line < 2; line++) {
            x.line(0, 0, 0);
            for (int place = 0; place < places; place++) {
                x.word(place < places - holes ? 7 : line);
            }
        }
        x.learn(2);
        return x;
    }

    private static void valuesArguments() {
        CHECK.about("12: Throws IndexOutOfBoundsException if there is no such TEMPLATE");
        CHECK.range("no line yet", INDEX, 0, -1, Nightjar::new, (x, n) -> x.values(n, 0));
        CHECK.range("nothing learned", INDEX, 0, -1, EdgesOfTemplatesTest::notLearned, (x, n) -> x.values(n, 0));
        CHECK.range("some", INDEX, 0, 0, Logs::some, (x, n) -> x.values(n, 0));
        CHECK.range("all", INDEX, 0, 19, Logs::most, (x, n) -> x.values(n, 0));
        CHECK.range("all but one forgotten", INDEX, 0, -1, Logs::mostButForgotten, (x, n) -> x.values(n, 0));
        CHECK.refuses("template 1, forgotten", INDEX, Logs::mostButForgotten, x -> x.values(1, 0));
        CHECK.refuses("template 19, forgotten", INDEX, Logs::mostButForgotten, x -> x.values(19, 0));
        CHECK.about("12: or it has no such HOLE");
        for (int places = 0; places <= 8; places++) {
            int size = places;
            CHECK.range(size + " places, all holes", INDEX, 0, size - 1, () -> holes(size, size),
                (x, n) -> x.values(0, n));
            CHECK.range(size + " places, no holes", INDEX, 0, -1, () -> holes(size, 0), (x, n) -> x.values(0, n));
        }
        CHECK.range("8 places, 3 holes", INDEX, 0, 2, () -> holes(8, 3), (x, n) -> x.values(0, n));
        CHECK.range("a template between others", INDEX, 0, 0, Logs::most, (x, n) -> x.values(7, n));
    }

    private static void alike() {
        CHECK.about("13: Returns at how many PLACES that has its WORD");
        for (int size = 0; size <= 8; size++) {
            for (int holes = 0; holes <= size; holes++) {
                Nightjar x = holes(size, holes);
                CHECK.same("places of " + size + " with " + holes + " holes", size - holes, x.alike(0, 0));
                CHECK.same("the other line", size - holes, x.alike(1, 0));
            }
        }
        CHECK.same("a line that is not learned", 1, Logs.some().alike(5, 0));
        CHECK.same("a line of another template", 0, Logs.most().alike(69, 19));
        CHECK.same("the last line of all", 1, Logs.most().alike(69, 3));
        CHECK.about("13: -1 if it has not as many PLACES as the LINE has WORDS");
        for (int size = 0; size <= 8; size++) {
            for (int words = 0; words <= 8; words++) {
                Nightjar x = holes(size, 0);
                x.line(0, 0, 0);
                for (int i = 0; i < words; i++) {
                    x.word(7);
                }
                CHECK.same(words + " words, " + size + " places", words == size ? size : -1, x.alike(2, 0));
            }
        }
    }

    private static void alikeArguments() {
        CHECK.about("13: Throws IndexOutOfBoundsException if there is no such LINE");
        CHECK.range("nothing yet", INDEX, 0, -1, Nightjar::new, (x, n) -> x.alike(n, 0));
        CHECK.range("nothing learned", INDEX, 0, -1, EdgesOfTemplatesTest::notLearned, (x, n) -> x.alike(n, 0));
        CHECK.range("some", INDEX, 0, 5, Logs::some, (x, n) -> x.alike(n, 2));
        CHECK.range("all", INDEX, 0, 69, Logs::most, (x, n) -> x.alike(n, 19));
        CHECK.about("13: or TEMPLATE");
        CHECK.range("nothing learned", INDEX, 0, -1, EdgesOfTemplatesTest::notLearned, (x, n) -> x.alike(69, n));
        CHECK.range("some", INDEX, 0, 2, Logs::some, (x, n) -> x.alike(5, n));
        CHECK.range("all", INDEX, 0, 19, Logs::most, (x, n) -> x.alike(0, n));
        CHECK.range("all but one forgotten", INDEX, 0, 0, Logs::mostButForgotten, (x, n) -> x.alike(69, n));
        CHECK.refuses("neither", INDEX, Logs::some, x -> x.alike(6, 3));
    }

    /** One session of the key 7 with a line of each of the twenty templates. */
    private static Nightjar twentyTemplates() {
        Nightjar x = new Nightjar();
        for (int t = 0; t < 20; t++) {
            Logs.add(x, 0, 0, 0, t, 7);
            Logs.add(x, 0, 0, 0, t, 100 + t);
        }
        x.learn(70);
        return x;
    }

    /** All lines but the last one are in session 0. */
    private static Nightjar oneLongSession() {
        Nightjar x = new Nightjar();
        x.set(1, 1000);
        for (int i = 0; i < 70; i++) {
            Logs.add(x, i < 10 ? 0 : i < 69 ? 999 * (i / 7) : 9999, 0, 3, 1, i < 69 ? 999 : 0);
        }
        x.learn(70);
        return x;
    }

    /** There were 70 sessions with GAP 0; now there is one of 69 lines, and one of a line. */
    private static Nightjar fewerSessions() {
        Nightjar x = new Nightjar();
        x.set(1, 0);
        for (int i = 0; i < 70; i++) {
            Logs.add(x, i, 0, 0, 1, i < 69 ? 5 : 6);
        }
        x.learn(70);
        x.set(1, 1000);
        return x;
    }

    private static void tellsSession(Nightjar x, int session, int... due) {
        for (int what = 0; what <= 6; what++) {
            CHECK.same("ofSession(" + session + ", " + what + ")", due[what], x.ofSession(session, what));
        }
    }

    private static void ofSession() {
        CHECK.about("14: its KEY, the first TIME, the last one, LINES, those of LEVEL 3, TEMPLATES, SESSIONS of its PATH");
        Nightjar x = oneLongSession();
        tellsSession(x, 0, 999, 0, 999 * 9, 69, 69, 1, 1);
        tellsSession(x, 1, 0, 9999, 9999, 1, 1, 1, 1);
        Nightjar all = Logs.most();
        tellsSession(all, 0, 0, 0, 0, 1, 1, 1, 6);
        tellsSession(all, 69, 69, 1150, 1150, 1, 1, 1, 4);
        Nightjar twenty = twentyTemplates();
        tellsSession(twenty, 0, 7, 0, 0, 20, 0, 20, 1);
        tellsSession(twenty, 20, 119, 0, 0, 1, 0, 1, 1);
        Nightjar same = new Nightjar();
        for (int i = 0; i < 70; i++) {
            Logs.add(same, 0, 0, i == 69 ? 3 : 2, 1, i);
        }
        same.learn(70);
        tellsSession(same, 0, 0, 0, 0, 1, 0, 1, 70);
        tellsSession(same, 69, 69, 0, 0, 1, 1, 1, 70);
    }

    private static void ofSessionArguments() {
        CHECK.about("14: Throws IndexOutOfBoundsException if there is no such SESSION");
        CHECK.range("no line yet", INDEX, 0, -1, Nightjar::new, (x, n) -> x.ofSession(n, 0));
        CHECK.range("lines without keys", INDEX, 0, -1, Logs::full, (x, n) -> x.ofSession(n, 0));
        CHECK.range("some", INDEX, 0, 1, Logs::some, (x, n) -> x.ofSession(n, 6));
        CHECK.range("all", INDEX, 0, 69, Logs::most, (x, n) -> x.ofSession(n, 4));
        CHECK.range("once there were more", INDEX, 0, 1, EdgesOfTemplatesTest::fewerSessions, (x, n) -> x.ofSession(n, 3));
        CHECK.range("no such what either", INDEX, 0, -1, Nightjar::new, (x, n) -> x.ofSession(n, 7));
        CHECK.refuses("session 2, what -1", INDEX, Logs::some, x -> x.ofSession(2, -1));
        CHECK.refuses("session -1, what 7", INDEX, Logs::some, x -> x.ofSession(-1, 7));
        CHECK.about("14: Throws IllegalArgumentException if what is not 0 to 6");
        CHECK.range("the first session", ARGUMENT, 0, 6, Logs::some, (x, n) -> x.ofSession(0, n));
        CHECK.range("the last session of all", ARGUMENT, 0, 6, Logs::most, (x, n) -> x.ofSession(69, n));
    }

    private static void inSession() {
        CHECK.about("15: a place in it, from 0. Returns the LINE there");
        Nightjar x = oneLongSession();
        for (int place = 0; place < 69; place++) {
            CHECK.same("inSession(0, " + place + ")", place, x.inSession(0, place));
        }
        CHECK.same("inSession(1, 0)", 69, x.inSession(1, 0));
        Nightjar all = Logs.most();
        for (int session = 0; session < 70; session++) {
            CHECK.same("inSession(" + session + ", 0)", session, all.inSession(session, 0));
        }
        CHECK.same("inSession(0, 19)", 38, twentyTemplates().inSession(0, 19));
    }

    private static void inSessionArguments() {
        CHECK.about("15: Throws IndexOutOfBoundsException if there is no such SESSION");
        CHECK.range("no line yet", INDEX, 0, -1, Nightjar::new, (x, n) -> x.inSession(n, 0));
        CHECK.range("lines without keys", INDEX, 0, -1, Logs::full, (x, n) -> x.inSession(n, 0));
        CHECK.range("some", INDEX, 0, 1, Logs::some, (x, n) -> x.inSession(n, 0));
        CHECK.range("all", INDEX, 0, 69, Logs::most, (x, n) -> x.inSession(n, 0));
        CHECK.range("once there were more", INDEX, 0, 1, EdgesOfTemplatesTest::fewerSessions, (x, n) -> x.inSession(n, 0));
        CHECK.about("15: or place");
        CHECK.range("two lines", INDEX, 0, 1, Logs::some, (x, n) -> x.inSession(0, n));
        CHECK.range("one line", INDEX, 0, 0, Logs::some, (x, n) -> x.inSession(1, n));
        CHECK.range("69 lines", INDEX, 0, 68, EdgesOfTemplatesTest::oneLongSession, (x, n) -> x.inSession(0, n));
        CHECK.range("the last session of all", INDEX, 0, 0, Logs::most, (x, n) -> x.inSession(69, n));
        CHECK.refuses("neither", INDEX, Logs::some, x -> x.inSession(2, 2));
    }

    private static void usual() {
        CHECK.about("16: -1 if there is none");
        CHECK.same("no line yet", -1, new Nightjar().usual());
        CHECK.same("nothing learned", -1, notLearned().usual());
        CHECK.same("lines without keys", -1, Logs.full().usual());
        Nightjar forgotten = Logs.most();
        forgotten.forget();
        CHECK.same("all forgotten", -1, forgotten.usual());
        CHECK.about("16: of several the one with the smallest number");
        CHECK.same("two sessions, each with a path of its own", 0, Logs.some().usual());
        CHECK.same("all sessions", 0, Logs.most().usual());
        CHECK.same("21 sessions, each with a path of its own", 0, twentyTemplates().usual());
        CHECK.about("16: Returns the SESSION whose PATH the most SESSIONS have");
        Nightjar late = new Nightjar();
        for (int i = 0; i < 4; i++) {
            Logs.add(late, 0, 0, 0, 1, i / 2);
        }
        Logs.add(late, 0, 0, 0, 1, 2);
        Logs.add(late, 0, 0, 0, 1, 3);
        Logs.add(late, 0, 0, 0, 1, 4);
        late.learn(70);
        CHECK.same("the paths 0 0, 0 0, then three of 0", 2, late.usual());
    }

    private static void meanSession() {
        CHECK.about("17: Returns the mean number of LINES of a SESSION, not cut");
        CHECK.same("one line each", 1.0, Logs.most().meanSession());
        CHECK.same("2 and 1", 1.5, Logs.some().meanSession());
        CHECK.same("69 and 1", 35.0, oneLongSession().meanSession());
        CHECK.same("40 lines in 21 sessions", 40.0 / 21.0, twentyTemplates().meanSession());
        Nightjar one = new Nightjar();
        Logs.add(one, 0, 0, 0, 5, 0, 1, 2);
        Logs.add(one, 0, 0, 0, 5, 0, 1, 3);
        Logs.add(one, 0, 0, 0, 5, 0, 1, 4);
        one.learn(70);
        CHECK.same("three lines in three sessions", 1.0, one.meanSession());
        Logs.add(one, 0, 0, 0, 5, 0, 1, 4);
        one.learn(70);
        CHECK.same("four lines in three sessions", 4.0 / 3.0, one.meanSession());
        CHECK.about("17: 0 without any");
        CHECK.same("no line yet", 0.0, new Nightjar().meanSession());
        CHECK.same("nothing learned", 0.0, notLearned().meanSession());
        CHECK.same("lines without keys", 0.0, Logs.full().meanSession());
    }
}
