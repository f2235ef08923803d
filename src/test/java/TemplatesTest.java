/** Point 2 of the terms, and promises 10 to 13: ofTemplate, slot, values, alike. */
final class TemplatesTest {
    private static final Check CHECK = new Check();
    private static final Class<IllegalArgumentException> ARGUMENT = IllegalArgumentException.class;
    private static final Class<IndexOutOfBoundsException> INDEX = IndexOutOfBoundsException.class;

    public static void main(String[] args) {
        shareDecides();
        nearestDecides();
        holesDoNotCount();
        emptyLines();
        twentyAreTheMost();
        eightPlacesEach();
        ofTemplateTells();
        slotTells();
        valuesCounts();
        alikeCounts();
        CHECK.end("TemplatesTest");
    }

    private static void shareDecides() {
        // Three words: (3 * SHARE + 99) / 100 of them have to be the same.
        int[] shares = {0, 33, 34, 66, 67, 100};
        int[] needed = {0, 1, 2, 2, 3, 3};
        int[][] lines = {{7, 8, 9}, {1, 8, 9}, {1, 2, 9}, {1, 2, 3}};
        for (int s = 0; s < shares.length; s++) {
            for (int same = 0; same <= 3; same++) {
                Nightjar x = new Nightjar();
                x.set(0, shares[s]);
                Logs.add(x, 0, 0, 0, 1, 2, 3);
                Logs.add(x, 0, 0, 0, lines[same]);
                x.learn(2);
                String what = "templates with SHARE " + shares[s] + " and " + same + " same words";
                CHECK.same(what, same >= needed[s] ? 1 : 2, x.many(2));
            }
        }
    }

    private static void nearestDecides() {
        Nightjar x = new Nightjar();
        x.set(0, 100);
        Logs.add(x, 0, 0, 0, 1, 2, 3, 4);
        Logs.add(x, 0, 0, 0, 1, 2, 5, 6);
        Logs.add(x, 0, 0, 0, 9, 2, 5, 7);
        Logs.add(x, 0, 0, 0, 1, 2);
        x.learn(4);
        x.set(0, 50);
        Logs.add(x, 0, 0, 0, 1, 2, 5, 8);
        Logs.add(x, 0, 0, 0, 1, 2, 8, 8);
        Logs.add(x, 0, 0, 0, 0, 0, 0);
        x.learn(3);
        CHECK.same("the template with the most same words", 1, x.ofLine(4, 4));
        CHECK.same("of several the smallest number", 0, x.ofLine(5, 4));
        CHECK.same("another number of places", 4, x.ofLine(6, 4));
    }

    private static void holesDoNotCount() {
        Nightjar x = new Nightjar();
        Logs.add(x, 0, 0, 0, 1, 2, 3);
        Logs.add(x, 0, 0, 0, 1, 2, 4);
        Logs.add(x, 0, 0, 0, 1, 5, 3);
        Logs.add(x, 0, 0, 0, 1, 2, 3);
        Logs.add(x, 0, 0, 0, 6, 2, 3);
        x.learn(2);
        CHECK.same("line 1", 0, x.ofLine(1, 4));
        x.learn(1);
        CHECK.same("one word and a hole", 1, x.ofLine(2, 4));
        CHECK.same("slot of a hole", -1, x.slot(0, 2));
        x.learn(2);
        // Line 3 has two of template 0 and two of template 1.
        CHECK.same("line 3", 0, x.ofLine(3, 4));
        CHECK.same("a line that is near to no template", 2, x.ofLine(4, 4));
        CHECK.same("a word that is a hole from now on stays one", -1, x.slot(0, 2));
    }

    private static void emptyLines() {
        Nightjar x = new Nightjar();
        x.set(0, 100);
        x.line(0, 0, 0);
        x.line(0, 1, 2);
        Logs.add(x, 0, 0, 0, 1);
        x.line(0, 2, 1);
        CHECK.same("learn", 4, x.learn(4));
        CHECK.same("templates", 2, x.many(2));
        CHECK.same("lines without words", 3, x.ofTemplate(0, 2));
        CHECK.same("places of an empty template", 0, x.ofTemplate(0, 0));
        CHECK.same("holes of an empty template", 0, x.ofTemplate(0, 1));
        CHECK.same("alike of an empty line", 0, x.alike(1, 0));
        CHECK.fails("slot of an empty template", INDEX, () -> x.slot(0, 0));
        CHECK.same("a key of an empty line", -1, x.ofLine(0, 5));
    }

    private static void twentyAreTheMost() {
        Nightjar x = Logs.full();
        CHECK.same("templates", 20, x.many(2));
        Logs.add(x, 30, 0, 3, 777, 777);
        Logs.add(x, 31, 0, 0, 19, 501);
        CHECK.same("learn of a line of none", 1, x.learn(1));
        CHECK.same("templates then", 20, x.many(2));
        CHECK.same("the template of a line of none", -1, x.ofLine(20, 4));
        CHECK.same("the key of a line of none", -1, x.ofLine(20, 5));
        CHECK.same("the session of a line of none", -1, x.ofLine(20, 6));
        CHECK.same("a line of none is learned", 21, x.many(1));
        x.set(0, 50);
        x.learn(1);
        CHECK.same("a line of the last template", 19, x.ofLine(21, 4));
        // Lines 11 to 19 are young enough, and so is line 20, which is of none.
        CHECK.same("a line of none is in a scene", 10, x.ofLine(21, 8));
    }

    /** What happens to a template with the most places leaves the next one alone. */
    private static void eightPlacesEach() {
        Nightjar x = new Nightjar();
        Logs.add(x, 0, 0, 0, 1, 2, 3, 4, 5, 6, 7, 8);
        Logs.add(x, 0, 0, 0, 51, 52, 53, 54, 55, 56, 57, 58);
        Logs.add(x, 0, 0, 0, 1, 2, 3, 4, 5, 6, 7, 9);
        Logs.add(x, 0, 0, 0, 59, 52, 53, 54, 55, 56, 57, 58);
        x.learn(3);
        CHECK.same("slot(1, 0) once template 0 has a hole", 51, x.slot(1, 0));
        x.learn(1);
        CHECK.same("slot(1, 0) as a hole", -1, x.slot(1, 0));
        CHECK.same("holes of template 0", 1, x.ofTemplate(0, 1));
        CHECK.fails("values(0, 1)", INDEX, () -> x.values(0, 1));
    }

    private static Nightjar threeTemplates() {
        Nightjar x = new Nightjar();
        Logs.add(x, 0, 0, 1, 5);
        Logs.add(x, 0, 0, 0, 1, 2, 3);
        Logs.add(x, 0, 0, 2, 1, 2, 4);
        Logs.add(x, 0, 0, 1, 1, 6, 3, 9);
        Logs.add(x, 0, 0, 3, 1, 2, 5);
        x.learn(4);
        return x;
    }

    private static void ofTemplateTells() {
        Nightjar x = threeTemplates();
        int[] first = {1, 0, 1, 0, 1};
        int[] second = {3, 1, 2, 1, 2};
        for (int what = 0; what <= 4; what++) {
            CHECK.same("ofTemplate(0, " + what + ")", first[what], x.ofTemplate(0, what));
            CHECK.same("ofTemplate(1, " + what + ")", second[what], x.ofTemplate(1, what));
        }
        x.learn(1);
        CHECK.same("the greatest level with one more line", 3, x.ofTemplate(1, 4));
        CHECK.same("lines with one more", 3, x.ofTemplate(1, 2));
        CHECK.same("the first line of template 2", 3, x.ofTemplate(2, 3));
        CHECK.same("the greatest level of lines of level 0", 0, longTemplate().ofTemplate(0, 4));
        CHECK.same("holes at the first place and the last one", 2, outerHoles().ofTemplate(0, 1));
        for (int template : new int[] {-1, 3, 20, Integer.MAX_VALUE, Integer.MIN_VALUE}) {
            CHECK.refuses("ofTemplate(" + template + ", 0)", INDEX, TemplatesTest::threeTemplates,
                y -> y.ofTemplate(template, 0));
            CHECK.refuses("ofTemplate(" + template + ", 5)", INDEX, TemplatesTest::threeTemplates,
                y -> y.ofTemplate(template, 5));
        }
        for (int what : new int[] {-1, 5, Integer.MAX_VALUE}) {
            CHECK.refuses("ofTemplate(0, " + what + ")", ARGUMENT, TemplatesTest::threeTemplates,
                y -> y.ofTemplate(0, what));
        }
    }

    private static Nightjar longTemplate() {
        Nightjar x = new Nightjar();
        Logs.add(x, 0, 0, 0, 1, 2, 3, 0, 5, 6, 7, 999);
        Logs.add(x, 0, 0, 0, 1, 9, 3, 0, 5, 6, 9, 999);
        Logs.add(x, 0, 0, 0, 4);
        x.learn(3);
        return x;
    }

    private static Nightjar outerHoles() {
        Nightjar x = new Nightjar();
        Logs.add(x, 0, 0, 0, 1, 2, 3, 4);
        Logs.add(x, 0, 0, 0, 9, 2, 3, 9);
        x.learn(2);
        return x;
    }

    private static void slotTells() {
        Nightjar x = longTemplate();
        int[] due = {1, -1, 3, 0, 5, 6, -1, 999};
        for (int place = 0; place < 8; place++) {
            CHECK.same("slot(0, " + place + ")", due[place], x.slot(0, place));
        }
        CHECK.same("slot(1, 0)", 4, x.slot(1, 0));
        int[][] wrong = {{-1, 0}, {2, 0}, {0, -1}, {0, 8}, {1, 1}, {1, Integer.MAX_VALUE}};
        for (int[] w : wrong) {
            CHECK.refuses("slot(" + w[0] + ", " + w[1] + ")", INDEX, TemplatesTest::longTemplate,
                y -> y.slot(w[0], w[1]));
        }
    }

    private static Nightjar twoHoles() {
        Nightjar x = new Nightjar();
        Logs.add(x, 0, 0, 0, 1, 2, 3, 4, 5);
        Logs.add(x, 0, 0, 0, 1, 2, 9, 4, 6);
        Logs.add(x, 0, 0, 0, 1, 2, 8, 4, 5);
        Logs.add(x, 0, 0, 0, 1, 2, 7);
        Logs.add(x, 0, 0, 0, 1, 2, 9, 4, 5);
        Logs.add(x, 0, 0, 0, 1, 2, 77, 4, 5);
        x.learn(5);
        return x;
    }

    private static void valuesCounts() {
        Nightjar x = twoHoles();
        CHECK.same("values of the first hole", 3, x.values(0, 0));
        CHECK.same("values of the second hole", 2, x.values(0, 1));
        x.learn(1);
        CHECK.same("values with one more line", 4, x.values(0, 0));
        int[][] wrong = {{-1, 0}, {2, 0}, {0, -1}, {0, 2}, {1, 0}, {0, Integer.MAX_VALUE}, {0, Integer.MIN_VALUE}};
        for (int[] w : wrong) {
            CHECK.refuses("values(" + w[0] + ", " + w[1] + ")", INDEX, TemplatesTest::twoHoles,
                y -> y.values(w[0], w[1]));
        }
    }

    private static Nightjar oneTemplate() {
        Nightjar x = new Nightjar();
        Logs.add(x, 0, 0, 0, 1, 2, 3);
        Logs.add(x, 0, 0, 0, 1, 2, 4);
        Logs.add(x, 0, 0, 0, 5, 2, 4);
        Logs.add(x, 0, 0, 0, 7, 8, 9);
        Logs.add(x, 0, 0, 0, 1, 2);
        x.learn(1);
        return x;
    }

    private static void alikeCounts() {
        CHECK.refuses("alike without templates", INDEX, () -> Logs.same(2, 1), y -> y.alike(0, 0));
        Nightjar x = oneTemplate();
        CHECK.same("all places", 3, x.alike(0, 0));
        CHECK.same("two places", 2, x.alike(1, 0));
        x.learn(1);
        CHECK.same("a hole is not alike", 2, x.alike(0, 0));
        CHECK.same("one place and a hole", 1, x.alike(2, 0));
        CHECK.same("no place", 0, x.alike(3, 0));
        CHECK.same("another number of words", -1, x.alike(4, 0));
        int[][] wrong = {{-1, 0}, {5, 0}, {0, -1}, {0, 1}, {70, 0}, {0, 20}};
        for (int[] w : wrong) {
            CHECK.refuses("alike(" + w[0] + ", " + w[1] + ")", INDEX, TemplatesTest::oneTemplate,
                y -> y.alike(w[0], w[1]));
        }
    }
}
