import java.util.function.Supplier;

/** A depot whose runs 0 to 4 are in the states WAITS, ORDERED, GOES, DONE and LOST, for the tests of questions. */
final class RunQuestions {
    interface Question {
        int ask(DepotLog x, int run);
    }

    private RunQuestions() {
    }

    static DepotLog allStates() {
        DepotLog x = new DepotLog();
        x.lead(0, 100);
        x.run(100, 10, 10);
        x.run(100, 20, 20);
        x.run(30, 30, 30);
        x.run(10, 10, 40);
        x.run(10, 10, 10);
        x.order(0, 1, 1, 4, 3);
        x.order(0, 2, 2, 3, 2);
        x.order(0, 3, 3, 2, 1);
        x.advance(40);
        return x;
    }

    static void refusals(Check check, Question question) {
        Supplier<DepotLog> made = RunQuestions::allStates;
        int[] none = {5, 29, 30, -1, Integer.MIN_VALUE, Integer.MAX_VALUE};
        for (int run : none) {
            check.refused("run " + run, IndexOutOfBoundsException.class, made, x -> question.ask(x, run));
        }
        check.refused("no runs", IndexOutOfBoundsException.class, DepotLog::new, x -> question.ask(x, 0));
    }
}
