import java.util.function.Consumer;
import java.util.function.Supplier;

/** Compares what is due with what came, and counts both kinds of outcome. */
final class Check {
    private int passed;
    private int failed;

    void same(String what, long due, long got) {
        note(due == got, what + " answered " + got + ", due is " + due);
    }

    void same(String what, double due, double got) {
        note(due == got, what + " answered " + got + ", due is " + due);
    }

    void same(String what, String due, String got) {
        note(due.equals(got), what + " answered " + got + ", due is " + due);
    }

    /** The class of the exception has to be the very one, no class below it. */
    void fails(String what, Class<? extends RuntimeException> due, Runnable call) {
        String got = "nothing";
        try {
            call.run();
        } catch (RuntimeException e) {
            got = e.getClass().getName();
        }
        note(got.equals(due.getName()), what + " threw " + got + ", due is " + due.getName());
    }

    /** The call has to throw, and to leave the object as one that was made the same way. */
    void refuses(String what, Class<? extends RuntimeException> due, Supplier<Nightjar> made,
            Consumer<Nightjar> call) {
        Nightjar x = made.get();
        fails(what, due, () -> call.accept(x));
        same(what + ": what stands behind it", Logs.picture(made.get()), Logs.picture(x));
    }

    private void note(boolean good, String complaint) {
        if (good) {
            passed++;
        } else {
            failed++;
            System.out.println("WRONG: " + complaint);
        }
    }

    /** Prints the outcome, and ends the program with 1 if a check failed. */
    void end(String name) {
        System.out.println(name + ": " + passed + " checks passed, " + failed + " failed");
        if (failed != 0 || passed == 0) {
            System.exit(1);
        }
    }
}
