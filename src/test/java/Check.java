import java.util.function.Consumer;
import java.util.function.Supplier;

/** Compares what is due with what came, and counts both kinds of outcome. */
final class Check {
    /** A call of an object with a number. */
    interface NumberCall {
        void on(Nightjar x, int n);
    }

    private int passed;
    private int failed;
    private String sentence = "";
    private int before;

    /** From now on the checks stand for this sentence of the document. */
    void about(String next) {
        endSentence();
        sentence = next;
        before = passed + failed;
    }

    private void endSentence() {
        if (!sentence.isEmpty() && passed + failed == before) {
            failed++;
            System.out.println("WRONG: no check for: " + sentence);
        }
    }

    void same(String what, long due, long got) {
        note(due == got, what + " answered " + got + ", due is " + due);
    }

    void same(String what, double due, double got) {
        note(due == got, what + " answered " + got + ", due is " + due);
    }

    void same(String what, String due, String got) {
        note(due.equals(got), what + " answered " + got + ", due is " + due);
    }

    /** The class of the exception has to be the very one, no class below it. */
    void fails(String what, Class<? extends RuntimeException> due, Runnable call) {
        String got = thrown(call);
        note(got.equals(due.getName()), what + " threw " + got + ", due is " + due.getName());
    }

    /** The call has to throw, and to leave the object as one that was made the same way. */
    void refuses(String what, Class<? extends RuntimeException> due, Supplier<Nightjar> made,
            Consumer<Nightjar> call) {
        Nightjar x = made.get();
        fails(what, due, () -> call.accept(x));
        Supplier<Nightjar> behind = () -> {
            Nightjar y = made.get();
            thrown(() -> call.accept(y));
            return y;
        };
        same(what + ": what stands behind it", Logs.picture(made), Logs.picture(behind));
    }

    /** The least number and the most one are taken; those just outside and far outside are refused. */
    void range(String what, Class<? extends RuntimeException> due, int least, int most, Supplier<Nightjar> made,
            NumberCall call) {
        if (least <= most) {
            takes(what + " with " + least, made, call, least);
            takes(what + " with " + most, made, call, most);
        }
        for (int n : new int[] {least - 1, most + 1, Integer.MIN_VALUE, Integer.MAX_VALUE}) {
            refuses(what + " with " + n, due, made, x -> call.on(x, n));
        }
    }

    private void takes(String what, Supplier<Nightjar> made, NumberCall call, int n) {
        Nightjar x = made.get();
        same(what + " threw", "nothing", thrown(() -> call.on(x, n)));
    }

    private static String thrown(Runnable call) {
        try {
            call.run();
        } catch (RuntimeException e) {
            return e.getClass().getName();
        }
        return "nothing";
    }

    private void note(boolean good, String complaint) {
        if (good) {
            passed++;
        } else {
            failed++;
            System.out.println("WRONG: " + (sentence.isEmpty() ? "" : "(" + sentence + ") ") + complaint);
        }
    }

    /** Prints the outcome, and ends the program with 1 if a check failed. */
    void end(String name) {
        endSentence();
        System.out.println(name + ": " + passed + " checks passed, " + failed + " failed");
        if (failed != 0 || passed == 0) {
            System.exit(1);
        }
    }
}
