import java.util.Random;

/** Long runs of calls, with wrong arguments among them, against the model. */
final class ModelTest {
    private static final int RUNS = 200;
    private static final int MOST_CALLS = 512;

    private static final Check CHECK = new Check();

    private final Random random;
    private final Nightjar x = new Nightjar();
    private final Model model = new Model();
    // How unlike the lines of this run are: small numbers make many of a kind.
    private final int words;
    private final int sizes;
    private final int sources;
    private final int steps;
    private final int builders;
    private int time;

    private ModelTest(int seed) {
        random = new Random(seed);
        words = 1 + random.nextInt(5);
        sizes = 1 + random.nextInt(seed % 3 == 0 ? 9 : 4);
        sources = 1 + random.nextInt(8);
        steps = random.nextInt(5) * random.nextInt(10);
        builders = 20 + random.nextInt(75);
    }

    public static void main(String[] args) {
        int runs = args.length > 0 ? Integer.parseInt(args[0]) : RUNS;
        for (int seed = 0; seed < runs; seed++) {
            new ModelTest(seed).run(seed);
        }
        CHECK.end("ModelTest");
    }

    private void run(int seed) {
        for (int call = 0; call < MOST_CALLS - 1; call++) {
            if (random.nextInt(100) < builders) {
                build(seed);
            } else {
                ask(seed);
            }
        }
        CHECK.same("run " + seed + ": digest()", model.digest(), x.digest());
    }

    private interface Call {
        Number answer();
    }

    private void compare(String what, Call due, Call got) {
        CHECK.same(what, outcome(due), outcome(got));
    }

    private static String outcome(Call call) {
        try {
            return call.answer().toString();
        } catch (RuntimeException e) {
            return "throws." + e.getClass().getSimpleName();
        }
    }

    /** A number from 0 to the most, but now and then one just outside or far off. */
    private int about(int most) {
        int luck = random.nextInt(40);
        if (luck == 0) {
            return -1;
        }
        if (luck == 1) {
            return most + 1;
        }
        if (luck == 2) {
            return random.nextInt();
        }
        return random.nextInt(most + 1);
    }

    private void build(int seed) {
        String run = "run " + seed + ": ";
        int luck = random.nextInt(100);
        if (luck < 28) {
            time = Math.min(9999, time + (steps == 0 ? 0 : random.nextInt(steps)));
            int at = random.nextInt(30) == 0 ? about(9999) : time;
            int source = random.nextInt(30) == 0 ? about(7) : random.nextInt(sources);
            int level = about(3);
            compare(run + "line(" + at + ", " + source + ", " + level + ")",
                () -> model.line(at, source, level), () -> x.line(at, source, level));
            time = model.many(0) > 0 ? model.ofLine(model.many(0) - 1, 0) : time;
        } else if (luck < 85) {
            int size = model.many(0) > 0 ? model.ofLine(model.many(0) - 1, 3) : 0;
            int word = random.nextInt(30) == 0 ? about(999)
                : (size == 0 ? 0 : size * 10 * random.nextInt(2)) + random.nextInt(words);
            if (size < sizes || random.nextInt(10) == 0) {
                compare(run + "word(" + word + ")", () -> model.word(word), () -> x.word(word));
            }
        } else if (luck < 92) {
            int most = random.nextInt(3) == 0 ? about(70) : random.nextInt(5);
            compare(run + "learn(" + most + ")", () -> model.learn(most), () -> x.learn(most));
        } else if (luck < 99) {
            int what = about(3);
            int n = random.nextInt(2) == 0 ? about(what == 0 ? 100 : 1000) : about(40);
            compare(run + "set(" + what + ", " + n + ")", () -> model.set(what, n), () -> x.set(what, n));
        } else if (random.nextInt(3) == 0) {
            compare(run + "forget()", model::forget, x::forget);
        }
    }

    private void ask(int seed) {
        int a = about(20);
        int b = about(12);
        int c = about(4);
        int line = random.nextInt(4) == 0 ? about(70) : about(Math.max(0, model.many(0) - 1));
        int template = about(Math.max(0, model.many(2) - 1));
        int session = about(Math.max(0, model.many(3) - 1));
        int spike = about(Math.max(0, model.many(5) - 1));
        int percent = about(100);
        int thousand = random.nextInt(2) == 0 ? about(40) : about(1000);
        String run = "run " + seed + ": ";
        String these = " of " + line + " " + template + " " + session + " " + spike + " " + a + " " + b + " " + c
            + " " + percent + " " + thousand;
        switch (random.nextInt(21)) {
            case 0 -> compare(run + "many" + these, () -> model.many(c + 1), () -> x.many(c + 1));
            case 1 -> compare(run + "ofLine" + these, () -> model.ofLine(line, b), () -> x.ofLine(line, b));
            case 2 -> compare(run + "wordAt" + these, () -> model.wordAt(line, c), () -> x.wordAt(line, c));
            case 3 -> compare(run + "ofTemplate" + these,
                () -> model.ofTemplate(template, c), () -> x.ofTemplate(template, c));
            case 4 -> compare(run + "slot" + these, () -> model.slot(template, c), () -> x.slot(template, c));
            case 5 -> compare(run + "values" + these, () -> model.values(template, c), () -> x.values(template, c));
            case 6 -> compare(run + "alike" + these, () -> model.alike(line, template), () -> x.alike(line, template));
            case 7 -> compare(run + "ofSession" + these,
                () -> model.ofSession(session, b / 2), () -> x.ofSession(session, b / 2));
            case 8 -> compare(run + "inSession" + these,
                () -> model.inSession(session, c), () -> x.inSession(session, c));
            case 9 -> compare(run + "usual", model::usual, x::usual);
            case 10 -> compare(run + "meanSession", model::meanSession, x::meanSession);
            case 11 -> compare(run + "count" + these, () -> model.count(template, a), () -> x.count(template, a));
            case 12 -> compare(run + "spike" + these, () -> model.spike(spike, c), () -> x.spike(spike, c));
            case 13 -> compare(run + "causes" + these, () -> model.causes(template), () -> x.causes(template));
            case 14, 15 -> compare(run + "cause" + these,
                () -> model.cause(template, b / 4, c), () -> x.cause(template, b / 4, c));
            case 16 -> compare(run + "because" + these, () -> model.because(line), () -> x.because(line));
            case 17 -> compare(run + "templatesWith" + these,
                () -> model.templatesWith(percent), () -> x.templatesWith(percent));
            case 18 -> compare(run + "sessionsWith" + these,
                () -> model.sessionsWith(thousand), () -> x.sessionsWith(thousand));
            case 19 -> compare(run + "wouldBe" + these, () -> model.wouldBe(line), () -> x.wouldBe(line));
            default -> compare(run + "digest()", model::digest, x::digest);
        }
    }
}
