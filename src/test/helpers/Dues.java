import java.util.function.Consumer;
import java.util.function.Predicate;
import java.util.function.ToIntFunction;

/** What the tests share: answers compared with those that are due. A promise of 0 stands for the document's terms. */
abstract class Dues {
    private static final int GIVERS = 6;
    private static final int TAKERS = 2;
    private static final int LATEST = 6;
    private static int wrong = 0;

    static void due(int promise, String what, long got, long want) {
        if (got != want) {
            wrong++;
            System.out.println("promise " + promise + ", " + what + ": answered " + got + ", due is " + want);
        }
    }

    static void due(int promise, String what, boolean got, boolean want) {
        due(promise, what, got ? 1 : 0, want ? 1 : 0);
    }

    /** The whole of event i: kind, stream, and the two numbers, 0 where none is given. */
    static void dueEvent(int promise, FlowKernel x, int i, int... want) {
        String what = "event " + i;
        due(promise, what + ", kind", x.event(i, 0), want[0] + 32 * want[1]);
        due(promise, what + ", first", x.event(i, 1), want.length > 2 ? want[2] : 0);
        due(promise, what + ", second", x.event(i, 2), want.length > 3 ? want[3] : 0);
    }

    /** The events from the first-th on are these, and no more. */
    static void dueEvents(int promise, String what, FlowKernel x, int first, int[]... want) {
        due(promise, what + ", events", x.events(), first + want.length);
        for (int i = 0; i < want.length; i++) {
            dueEvent(promise, x, first + i, want[i]);
        }
    }

    static int[] noted(int... numbers) {
        return numbers;
    }

    static FlowKernel made(Consumer<FlowKernel> start) {
        FlowKernel x = new FlowKernel();
        start.accept(x);
        return x;
    }

    static void times(int n, Runnable call) {
        for (int i = 0; i < n; i++) {
            call.run();
        }
    }

    /** The call answers so, and an object on which it was made can't be told from one on which it was not. */
    static void refused(int promise, String what, Consumer<FlowKernel> start, ToIntFunction<FlowKernel> call, int answer) {
        FlowKernel asked = made(start);
        FlowKernel twin = made(start);
        due(promise, what, call.applyAsInt(asked), answer);
        dueSame(promise, what + ", at once", seen(asked), seen(twin));
        dueSame(promise, what + ", in later calls", goneOn(asked), goneOn(twin));
        dueSame(promise, what + ", after later calls", seen(asked), seen(twin));
    }

    static void isFalse(int promise, String what, Consumer<FlowKernel> start, Predicate<FlowKernel> call) {
        refused(promise, what, start, x -> call.test(x) ? 1 : 0, 0);
    }

    private static void dueSame(int promise, String what, int[] got, int[] want) {
        for (int i = 0; i < want.length; i++) {
            due(promise, what + " (answer " + i + ")", got[i], want[i]);
        }
    }

    /** All that can be asked, of the events the latest. */
    private static int[] seen(FlowKernel x) {
        Answers all = new Answers();
        all.add(x.jobs());
        all.add(x.events());
        for (int r = 0; r < GIVERS; r++) {
            all.add(x.giverState(r), x.giverRoom(r), x.giverQueue(r), x.error(false, r));
        }
        for (int w = 0; w < TAKERS; w++) {
            all.add(x.takerState(w), x.takerRoom(w), x.takerQueue(w), x.error(true, w));
        }
        int count = x.events();
        for (int i = Math.max(0, count - LATEST); i < count; i++) {
            all.add(x.event(i, 0), x.event(i, 1), x.event(i, 2));
        }
        return all.all();
    }

    /** Calls whose answers depend on what can't be asked for: numbers, jobs and their order, pipes, pending errors. */
    private static int[] goneOn(FlowKernel x) {
        Answers all = new Answers();
        all.add(x.step(), x.step(), x.step(), x.run());
        for (int w = 0; w < TAKERS; w++) {
            all.add(x.write(w, 9), x.settle(w, -1), x.run(), x.settle(w, -1), x.run());
            all.add(x.shut(w), x.settle(w, 3), x.run());
        }
        for (int r = 0; r < GIVERS; r++) {
            all.add(x.read(r), x.put(r, 9), x.pulled(r, -1), x.run());
            all.add(x.pipe(r, 0, 4), x.pipe(r, 1, 4), x.run());
        }
        for (int r = 0; r < GIVERS; r++) {
            all.add(x.cancel(r, 8), x.run());
        }
        all.add(x.taker(1, true), x.giver(2, true), x.part(0), x.run());
        return all.all();
    }

    static void finish() {
        System.out.println(wrong == 0 ? "all answers are as due" : wrong + " answers are not as due");
        if (wrong != 0) {
            System.exit(1);
        }
    }

    private static final class Answers {
        private final int[] answers = new int[200];
        private int count;

        /** Each answer is an int or a boolean. */
        void add(Object... more) {
            for (Object answer : more) {
                answers[count] = answer instanceof Boolean yes ? (yes ? 1 : 0) : (Integer) answer;
                count++;
            }
        }

        int[] all() {
            return answers;
        }
    }
}
