import java.util.ArrayList;
import java.util.List;

/**
 * Long runs of calls, drawn from fixed seeds, on the class and on a model that follows the document's sentences
 * one by one; after every call all that can be asked is compared. With these questions an object has far more than 512
 * calls; the document leaves their answers free, but the class answers on.
 */
public final class ModelRuns {
    private static final int RUNS = 12000;
    private static final int CALLS = 500;
    private static final int SEEN_ENOUGH = 200;
    private static final int STYLES = 6;
    /** A parted giver of whose branches one is never read, until that one is full. */
    private static final int LOPSIDED = 2;

    public static void main(String[] args) {
        int wrong = 0;
        int full = 0;
        long[] kinds = new long[17];
        for (int run = 0; run < RUNS && wrong < 5; run++) {
            Run one = new Run(run);
            if (!one.agrees()) {
                wrong++;
            }
            for (int[] event : one.model.events) {
                kinds[event[0]]++;
            }
            for (Giver giver : one.model.givers) {
                full += giver.state == 2 && giver.error == 101 ? 1 : 0;
            }
        }
        // Runs that never come to an event say nothing about it.
        for (int kind = 1; kind <= 16; kind++) {
            if (kinds[kind] < SEEN_ENOUGH) {
                wrong++;
                System.out.println("event " + kind + " came only " + kinds[kind] + " times");
            }
        }
        if (full < 20) {
            wrong++;
            System.out.println("a branch was full only " + full + " times");
        }
        System.out.println(wrong == 0 ? "all answers are as due" : wrong + " runs are not as due");
        if (wrong != 0) {
            System.exit(1);
        }
    }

    /** One run: the calls drawn, and both answers to each. */
    private static final class Run {
        final FlowKernel kernel = new FlowKernel();
        final Model model = new Model();
        final List<String> told = new ArrayList<>();
        final int seed;
        private long state;
        private final int length;
        private final int style;
        /** One in how many of the calls that can end a stream does so. */
        private final int calm;

        Run(int seed) {
            this.seed = seed;
            state = seed * 0x9E3779B97F4A7C15L + 12345;
            style = below(STYLES);
            calm = 1 + below(style == LOPSIDED ? 200 : 20);
            length = 20 + below(calm < 5 ? 100 : CALLS - 20);
        }

        int below(int n) {
            state = state * 6364136223846793005L + 1442695040888963407L;
            return (int) ((state >>> 33) % n);
        }

        boolean agrees() {
            open();
            for (int i = 0; i < length; i++) {
                if (!sameAnswer() || !sameState()) {
                    System.out.println("seed " + seed + ":");
                    int from = Math.max(0, told.size() - 40);
                    for (String line : told.subList(from, told.size())) {
                        System.out.println("  " + line);
                    }
                    return false;
                }
            }
            return true;
        }

        /** Most runs start with streams, so that their calls are not all refused. */
        private void open() {
            int givers = 1 + below(3);
            for (int i = 0; i < givers; i++) {
                int mark = below(4);
                boolean byValue = below(2) == 0;
                kernel.giver(mark, byValue);
                model.giver(mark, byValue);
                told.add("giver(" + mark + ", " + byValue + ")");
            }
            if (style == 1 || style == LOPSIDED) {
                kernel.part(0);
                model.part(0);
                told.add("part(0)");
            }
        }

        private boolean is(String call, long got, long want) {
            told.add(call + " -> " + got);
            if (got != want) {
                told.add("  but due is " + want);
            }
            return got == want;
        }

        private boolean is(String call, boolean got, boolean want) {
            return is(call, got ? 1 : 0, want ? 1 : 0);
        }

        private int mark() {
            return below(8) == 0 ? below(24) - 2 : below(6);
        }

        private int giverNumber() {
            return below(20) == 0 ? below(9) - 1 : below(Math.max(1, model.givers.size()));
        }

        private int takerNumber() {
            return below(20) == 0 ? below(5) - 1 : below(2);
        }

        private int anError() {
            return below(10) == 0 ? below(3) * 51 - 2 : below(100);
        }

        private int errorOrNone() {
            return below(2 * calm + 2) != 0 ? -1 : below(6) == 0 ? below(2) * 102 - 2 : below(100);
        }

        private int chunk() {
            switch (below(4)) {
                case 0:
                    return 8 * below(5);
                case 1:
                    return -below(1000);
                default:
                    return below(1000);
            }
        }

        private boolean sameAnswer() {
            int r = giverNumber();
            int w = takerNumber();
            int e = anError();
            int n = errorOrNone();
            int c = chunk();
            int draw = below(100);
            if (draw < 16) {
                return is("put(" + r + ", " + c + ")", kernel.put(r, c), model.put(r, c));
            }
            if (draw < 28) {
                r = style == LOPSIDED && r == slowBranch() ? r - 1 : r;
                return is("read(" + r + ")", kernel.read(r), model.read(r));
            }
            if (draw < 38) {
                return is("write(" + w + ", " + c + ")", kernel.write(w, c), model.write(w, c));
            }
            if (draw < 48) {
                return is("pulled(" + r + ", " + n + ")", kernel.pulled(r, n), model.pulled(r, n));
            }
            if (draw < 60) {
                n = model.takerState(w) % 4 != 0 && below(3) == 0 ? e : n;
                return is("settle(" + w + ", " + n + ")", kernel.settle(w, n), model.settle(w, n));
            }
            if (draw < 66 || style == 3 && draw < 72) {
                return is("step()", kernel.step(), model.step());
            }
            if (draw < 76) {
                return is("run()", kernel.run(), model.run());
            }
            if (draw < 84) {
                return structural(r, w);
            }
            return ending(r, w, e);
        }

        /** The second branch of giver 0. */
        private int slowBranch() {
            Parting parting = model.givers.get(0).partedInto;
            return parting == null ? -1 : parting.branches.get(1).number;
        }

        private boolean structural(int r, int w) {
            int mark = mark();
            boolean byValue = below(2) == 0;
            int flags = below(12) == 0 ? below(3) * 9 - 2 : below(8);
            switch (below(6)) {
                case 0:
                    return is("giver(" + mark + ", " + byValue + ")", kernel.giver(mark, byValue), model.giver(mark, byValue));
                case 1:
                case 2:
                    return is("taker(" + mark + ", " + byValue + ")", kernel.taker(mark, byValue), model.taker(mark, byValue));
                case 3:
                    return is("part(" + r + ")", kernel.part(r), model.part(r));
                default:
                    return is("pipe(" + r + ", " + w + ", " + flags + ")", kernel.pipe(r, w, flags), model.pipe(r, w, flags));
            }
        }

        /** Calls after which little more happens to a stream are rare, or nothing else would be seen. */
        private boolean ending(int r, int w, int e) {
            if (below(calm) != 0) {
                int i = below(Math.max(1, model.events.size() + 3)) - 1;
                int what = below(5) - 1;
                return is("event(" + i + ", " + what + ")", kernel.event(i, what), model.event(i, what));
            }
            switch (below(6)) {
                case 0:
                    return is("end(" + r + ")", kernel.end(r), model.end(r));
                case 1:
                    return is("fail(" + r + ", " + e + ")", kernel.fail(r, e), model.fail(r, e));
                case 2:
                    return is("cancel(" + r + ", " + e + ")", kernel.cancel(r, e), model.cancel(r, e));
                case 3:
                    return is("shut(" + w + ")", kernel.shut(w), model.shut(w));
                case 4:
                    return is("abort(" + w + ", " + e + ")", kernel.abort(w, e), model.abort(w, e));
                default:
                    return is("spoil(" + w + ", " + e + ")", kernel.spoil(w, e), model.spoil(w, e));
            }
        }

        private boolean sameState() {
            boolean same = kernel.jobs() == model.jobs.size() && kernel.events() == model.events.size();
            for (int r = -1; r <= 6; r++) {
                same &= kernel.giverState(r) == model.giverState(r);
                same &= kernel.giverRoom(r) == model.giverRoom(r);
                same &= kernel.giverQueue(r) == model.giverQueue(r);
                same &= kernel.error(false, r) == model.error(false, r);
            }
            for (int w = -1; w <= 2; w++) {
                same &= kernel.takerState(w) == model.takerState(w);
                same &= kernel.takerRoom(w) == model.takerRoom(w);
                same &= kernel.takerQueue(w) == model.takerQueue(w);
                same &= kernel.error(true, w) == model.error(true, w);
            }
            int count = model.events.size();
            for (int i = Math.max(-1, count - 66); i <= count; i++) {
                for (int what = -1; what <= 3; what++) {
                    same &= kernel.event(i, what) == model.event(i, what);
                }
            }
            if (!same) {
                told.add("  after this the state is not as due");
            }
            return same;
        }
    }

    private interface Request {
        void chunk(int chunk);

        void done();

        void failed(int error);
    }

    private interface Job {
        /** False when it found its pipe over or idled. */
        boolean doIt();
    }

    private static final class WaitingJob {
        final int kind;
        final Object of;
        final Job job;

        WaitingJob(int kind, Object of, Job job) {
            this.kind = kind;
            this.of = of;
            this.job = job;
        }
    }

    private static final class Giver {
        int number;
        int mark;
        boolean byValue;
        int state;
        int error;
        final List<Integer> queue = new ArrayList<>();
        final List<Request> requests = new ArrayList<>();
        boolean ending;
        boolean pulling;
        boolean again;
        int held;
        int reads;
        Parting branchOf;
        Parting partedInto;
        boolean givenUp;

        int room() {
            return mark - sizes(queue, byValue);
        }
    }

    private static final class Parting {
        Giver giver;
        final List<Giver> branches = new ArrayList<>();
        boolean reading;
        boolean again;
    }

    private static final class Taker {
        int number;
        int mark;
        boolean byValue;
        int state;
        int error;
        final List<Integer> queue = new ArrayList<>();
        final List<Integer> numbers = new ArrayList<>();
        boolean end;
        boolean writing;
        boolean shutting;
        boolean aborting;
        boolean abortPending;
        boolean late;
        int abortError;
        int held;
        int writes;

        int room() {
            return mark - sizes(queue, byValue);
        }
    }

    private static final class Pipe implements Request {
        int number;
        Giver giver;
        Taker taker;
        int flags;
        boolean over;
        Model model;

        public void chunk(int chunk) {
            model.writeTo(taker, chunk);
        }

        public void done() {
        }

        public void failed(int error) {
        }
    }

    private static int sizes(List<Integer> chunks, boolean byValue) {
        int sum = 0;
        for (int chunk : chunks) {
            sum += byValue ? Math.floorMod(chunk, 8) : 1;
        }
        return sum;
    }

    /** The document, sentence by sentence. */
    private static final class Model {
        final List<Giver> givers = new ArrayList<>();
        final List<Taker> takers = new ArrayList<>();
        final List<Pipe> pipes = new ArrayList<>();
        final List<WaitingJob> jobs = new ArrayList<>();
        final List<int[]> events = new ArrayList<>();

        void event(int kind, int stream, int a, int b) {
            events.add(new int[] {kind, stream, a, b});
        }

        Giver g(int r) {
            return r < 0 || r >= givers.size() ? null : givers.get(r);
        }

        Taker t(int w) {
            return w < 0 || w >= takers.size() ? null : takers.get(w);
        }

        boolean waits(int kind, Object of) {
            for (WaitingJob job : jobs) {
                if (job.kind == kind && job.of == of) {
                    return true;
                }
            }
            return false;
        }

        void after() {
            for (Pipe pipe : pipes) {
                if (!pipe.over && !waits(6, pipe)) {
                    jobs.add(new WaitingJob(6, pipe, () -> pump(pipe)));
                }
            }
        }

        // Givers.

        void pullIfNeeded(Giver g) {
            if (g.state == 0 && !g.ending && (!g.requests.isEmpty() || g.room() > 0)) {
                if (g.pulling) {
                    g.again = true;
                } else {
                    g.pulling = true;
                    if (g.branchOf == null) {
                        event(1, g.number, 0, 0);
                    } else {
                        branchPulls(g);
                    }
                }
            }
        }

        void branchPulls(Giver branch) {
            Parting p = branch.branchOf;
            if (p.reading) {
                p.again = true;
            } else {
                p.reading = true;
                requestMade(p.giver, requestOf(p));
            }
            jobs.add(new WaitingJob(1, branch, () -> jobPulled(branch, -1)));
        }

        Request requestOf(Parting p) {
            return new Request() {
                public void chunk(int chunk) {
                    jobs.add(new WaitingJob(2, p, () -> jobParted(p, chunk)));
                }

                public void done() {
                    p.reading = false;
                    for (Giver branch : p.branches) {
                        if (branch.state == 0 && !branch.ending) {
                            toEnd(branch);
                        }
                    }
                }

                public void failed(int error) {
                    p.reading = false;
                }
            };
        }

        void takeIn(Giver g, int chunk) {
            if (!g.requests.isEmpty()) {
                g.requests.remove(0).chunk(chunk);
            } else {
                g.queue.add(chunk);
            }
            pullIfNeeded(g);
        }

        void close(Giver g) {
            g.state = 1;
            while (!g.requests.isEmpty()) {
                g.requests.remove(0).done();
            }
        }

        void toEnd(Giver g) {
            g.ending = true;
            if (g.queue.isEmpty()) {
                close(g);
            }
        }

        void toFail(Giver g, int error) {
            if (g.state != 0) {
                return;
            }
            g.queue.clear();
            g.state = 2;
            g.error = error;
            while (!g.requests.isEmpty()) {
                g.requests.remove(0).failed(error);
            }
            if (g.partedInto != null) {
                for (Giver branch : g.partedInto.branches) {
                    toFail(branch, error);
                }
            }
        }

        void toCancel(Giver g, int error) {
            if (g.state != 0) {
                return;
            }
            g.queue.clear();
            close(g);
            if (g.branchOf == null) {
                event(2, g.number, error, 0);
                return;
            }
            g.givenUp = true;
            boolean both = true;
            for (Giver branch : g.branchOf.branches) {
                both &= branch.givenUp;
            }
            if (both) {
                toCancel(g.branchOf.giver, error);
            }
        }

        void requestMade(Giver g, Request request) {
            if (g.state == 1) {
                request.done();
            } else if (g.state == 2) {
                request.failed(g.error);
            } else if (!g.queue.isEmpty()) {
                int chunk = g.queue.remove(0);
                if (g.ending && g.queue.isEmpty()) {
                    close(g);
                } else {
                    pullIfNeeded(g);
                }
                request.chunk(chunk);
            } else {
                g.requests.add(request);
                pullIfNeeded(g);
            }
        }

        boolean jobPulled(Giver g, int error) {
            g.pulling = false;
            if (error != -1) {
                toFail(g, error);
            } else if (g.again) {
                g.again = false;
                pullIfNeeded(g);
            }
            return true;
        }

        boolean jobParted(Parting p, int chunk) {
            p.again = false;
            for (Giver branch : p.branches) {
                if (branch.state == 0 && !branch.ending && !branch.givenUp) {
                    if (branch.queue.size() == 16) {
                        toFail(branch, 101);
                    } else {
                        takeIn(branch, chunk);
                    }
                }
            }
            p.reading = false;
            if (p.again) {
                p.reading = true;
                requestMade(p.giver, requestOf(p));
            }
            return true;
        }

        // Takers.

        void goesOn(Taker t) {
            if (t.writing || t.shutting || t.aborting) {
                return;
            }
            if (t.state == 1) {
                breaks(t);
            } else if (t.state == 0 && !t.queue.isEmpty()) {
                t.writing = true;
                event(3, t.number, t.queue.get(0), 0);
            } else if (t.state == 0 && t.end) {
                t.end = false;
                t.shutting = true;
                event(4, t.number, 0, 0);
            }
        }

        int writeTo(Taker t, int chunk) {
            int number = ++t.writes;
            if (t.state == 1 || t.state == 2) {
                event(10, t.number, number, t.error);
            } else if (t.end || t.shutting || t.state == 3) {
                event(10, t.number, number, 100);
            } else {
                t.queue.add(chunk);
                t.numbers.add(number);
                goesOn(t);
            }
            return number;
        }

        void startsFailing(Taker t, int error) {
            t.state = 1;
            t.error = error;
            if (!t.writing && !t.shutting) {
                breaks(t);
            }
        }

        void breaks(Taker t) {
            t.state = 2;
            while (!t.queue.isEmpty()) {
                t.queue.remove(0);
                event(10, t.number, t.numbers.remove(0), t.error);
            }
            if (t.abortPending) {
                t.abortPending = false;
                if (t.late) {
                    event(14, t.number, t.error, 0);
                } else {
                    t.aborting = true;
                    event(5, t.number, t.abortError, 0);
                }
            }
            if (!t.aborting && t.end) {
                t.end = false;
                event(12, t.number, t.error, 0);
            }
        }

        boolean jobWritten(Taker t, int error) {
            t.writing = false;
            t.queue.remove(0);
            int number = t.numbers.remove(0);
            if (error == -1) {
                event(9, t.number, number, 0);
                goesOn(t);
            } else {
                event(10, t.number, number, error);
                if (t.state == 0) {
                    startsFailing(t, error);
                } else {
                    breaks(t);
                }
            }
            return true;
        }

        boolean jobShut(Taker t, int error) {
            t.shutting = false;
            if (error == -1) {
                event(11, t.number, 0, 0);
                if (t.abortPending) {
                    t.abortPending = false;
                    event(13, t.number, 0, 0);
                }
                t.state = 3;
                return true;
            }
            event(12, t.number, error, 0);
            if (t.abortPending) {
                t.abortPending = false;
                event(14, t.number, error, 0);
            }
            if (t.state == 0) {
                startsFailing(t, error);
            } else {
                breaks(t);
            }
            return true;
        }

        boolean jobAborted(Taker t, int error) {
            t.aborting = false;
            if (error == -1) {
                event(13, t.number, 0, 0);
            } else {
                event(14, t.number, error, 0);
            }
            if (t.end) {
                t.end = false;
                event(12, t.number, t.error, 0);
            }
            return true;
        }

        void toAbort(Taker t, int error) {
            if (t.state == 3 || t.state == 2) {
                event(13, t.number, 0, 0);
                return;
            }
            if (!t.abortPending) {
                t.abortPending = true;
                t.abortError = error;
                t.late = t.state == 1;
                if (t.state != 1) {
                    startsFailing(t, error);
                }
            }
        }

        void toShutDown(Taker t) {
            if ((t.state == 0 || t.state == 1) && !t.end && !t.shutting) {
                t.end = true;
                goesOn(t);
            }
        }

        // Pipes.

        void over(Pipe p) {
            p.over = true;
            p.giver.held = 0;
            p.taker.held = 0;
            p.giver.requests.remove(p);
        }

        boolean pump(Pipe p) {
            if (p.over) {
                return false;
            }
            Giver g = p.giver;
            Taker t = p.taker;
            if (g.state == 2) {
                if ((p.flags & 2) == 0) {
                    toAbort(t, g.error);
                }
                over(p);
                event(16, p.number, g.error, 0);
                return true;
            }
            if (t.state == 1 || t.state == 2) {
                if ((p.flags & 4) == 0) {
                    toCancel(g, t.error);
                }
                over(p);
                event(16, p.number, t.error, 0);
                return true;
            }
            if (g.state == 1) {
                if (!t.queue.isEmpty()) {
                    return false;
                }
                if ((p.flags & 1) == 0) {
                    toShutDown(t);
                }
                over(p);
                event(15, p.number, 0, 0);
                return true;
            }
            if (t.end || t.shutting || t.state == 3) {
                if ((p.flags & 4) == 0) {
                    toCancel(g, 100);
                }
                over(p);
                event(16, p.number, 100, 0);
                return true;
            }
            if (g.requests.contains(p) || t.room() <= 0 || t.queue.size() == 16) {
                return false;
            }
            requestMade(g, p);
            return true;
        }

        // The face.

        int giver(int mark, boolean byValue) {
            if (mark < 0 || mark > 20) {
                return -1;
            }
            if (givers.size() == 6) {
                return -2;
            }
            Giver g = newGiver(mark, byValue);
            pullIfNeeded(g);
            after();
            return g.number;
        }

        Giver newGiver(int mark, boolean byValue) {
            Giver g = new Giver();
            g.number = givers.size();
            g.mark = mark;
            g.byValue = byValue;
            givers.add(g);
            return g;
        }

        int taker(int mark, boolean byValue) {
            if (mark < 0 || mark > 20) {
                return -1;
            }
            if (takers.size() == 2) {
                return -2;
            }
            Taker t = new Taker();
            t.number = takers.size();
            t.mark = mark;
            t.byValue = byValue;
            takers.add(t);
            after();
            return t.number;
        }

        boolean put(int r, int chunk) {
            Giver g = g(r);
            if (g == null || g.branchOf != null || g.state != 0 || g.ending) {
                return false;
            }
            if (g.queue.size() == 16 && g.requests.isEmpty()) {
                return false;
            }
            takeIn(g, chunk);
            after();
            return true;
        }

        boolean end(int r) {
            Giver g = g(r);
            if (g == null || g.branchOf != null || g.state != 0 || g.ending) {
                return false;
            }
            toEnd(g);
            after();
            return true;
        }

        boolean fail(int r, int error) {
            Giver g = g(r);
            if (g == null || g.branchOf != null || g.state != 0 || error < 0 || error > 99) {
                return false;
            }
            toFail(g, error);
            after();
            return true;
        }

        boolean pulled(int r, int error) {
            Giver g = g(r);
            if (g == null || g.branchOf != null || !g.pulling || waits(1, g) || error < -1 || error > 99) {
                return false;
            }
            jobs.add(new WaitingJob(1, g, () -> jobPulled(g, error)));
            after();
            return true;
        }

        int read(int r) {
            Giver g = g(r);
            if (g == null) {
                return -1;
            }
            if (g.held != 0) {
                return -2;
            }
            if (g.requests.size() == 8) {
                return -3;
            }
            int number = ++g.reads;
            requestMade(g, new Request() {
                public void chunk(int chunk) {
                    event(6, g.number, number, chunk);
                }

                public void done() {
                    event(7, g.number, number, 0);
                }

                public void failed(int error) {
                    event(8, g.number, number, error);
                }
            });
            after();
            return number;
        }

        boolean cancel(int r, int error) {
            Giver g = g(r);
            if (g == null || g.held != 0 || error < 0 || error > 99) {
                return false;
            }
            toCancel(g, error);
            after();
            return true;
        }

        int write(int w, int chunk) {
            Taker t = t(w);
            if (t == null) {
                return -1;
            }
            if (t.held != 0) {
                return -2;
            }
            if (t.queue.size() == 16) {
                return -3;
            }
            int number = writeTo(t, chunk);
            after();
            return number;
        }

        boolean shut(int w) {
            Taker t = t(w);
            if (t == null || t.held != 0 || t.state == 3 || t.state == 2 || t.end || t.shutting) {
                return false;
            }
            toShutDown(t);
            after();
            return true;
        }

        boolean abort(int w, int error) {
            Taker t = t(w);
            if (t == null || t.held != 0 || t.abortPending || t.aborting || error < 0 || error > 99) {
                return false;
            }
            toAbort(t, error);
            after();
            return true;
        }

        boolean spoil(int w, int error) {
            Taker t = t(w);
            if (t == null || t.state != 0 || error < 0 || error > 99) {
                return false;
            }
            startsFailing(t, error);
            after();
            return true;
        }

        boolean settle(int w, int error) {
            Taker t = t(w);
            if (t == null || !(t.writing || t.shutting || t.aborting)) {
                return false;
            }
            if (waits(3, t) || waits(4, t) || waits(5, t) || error < -1 || error > 99) {
                return false;
            }
            if (t.writing) {
                jobs.add(new WaitingJob(3, t, () -> jobWritten(t, error)));
            } else if (t.shutting) {
                jobs.add(new WaitingJob(4, t, () -> jobShut(t, error)));
            } else {
                jobs.add(new WaitingJob(5, t, () -> jobAborted(t, error)));
            }
            after();
            return true;
        }

        int pipe(int r, int w, int flags) {
            Giver g = g(r);
            Taker t = t(w);
            if (g == null || t == null || flags < 0 || flags > 7) {
                return -1;
            }
            if (g.held != 0 || t.held != 0 || !g.requests.isEmpty()) {
                return -2;
            }
            if (pipes.size() == 2) {
                return -3;
            }
            Pipe p = new Pipe();
            p.number = pipes.size();
            p.giver = g;
            p.taker = t;
            p.flags = flags;
            p.model = this;
            g.held = 1;
            t.held = 1;
            pipes.add(p);
            after();
            return p.number;
        }

        int part(int r) {
            Giver g = g(r);
            if (g == null) {
                return -1;
            }
            if (g.held != 0 || g.branchOf != null || !g.requests.isEmpty()) {
                return -2;
            }
            if (givers.size() > 4) {
                return -3;
            }
            g.held = 2;
            Parting p = new Parting();
            p.giver = g;
            g.partedInto = p;
            for (int i = 0; i < 2; i++) {
                Giver branch = newGiver(0, false);
                branch.branchOf = p;
                p.branches.add(branch);
            }
            for (Giver branch : p.branches) {
                if (g.state == 1) {
                    toEnd(branch);
                } else if (g.state == 2) {
                    toFail(branch, g.error);
                }
            }
            after();
            return p.branches.get(0).number;
        }

        int step() {
            if (jobs.isEmpty()) {
                return 0;
            }
            WaitingJob first = jobs.remove(0);
            if (first.job.doIt()) {
                after();
            }
            return first.kind;
        }

        int run() {
            int done = 0;
            while (done < 200 && step() != 0) {
                done++;
            }
            return done;
        }

        int giverState(int r) {
            Giver g = g(r);
            return g == null ? -1
                : g.state + (g.ending ? 4 : 0) + (g.pulling ? 8 : 0) + (g.again ? 16 : 0) + 32 * g.held;
        }

        int giverRoom(int r) {
            Giver g = g(r);
            return g == null ? -1000 : g.state == 0 ? g.room() : 0;
        }

        int giverQueue(int r) {
            Giver g = g(r);
            return g == null ? -1 : g.queue.size() + 100 * g.requests.size();
        }

        int takerState(int w) {
            Taker t = t(w);
            return t == null ? -1
                : t.state + (t.end ? 4 : 0) + (t.writing ? 8 : 0) + (t.shutting ? 16 : 0) + (t.aborting ? 32 : 0)
                    + (t.abortPending ? 64 : 0) + 128 * t.held;
        }

        int takerRoom(int w) {
            Taker t = t(w);
            return t == null ? -1000 : t.state == 0 ? t.room() : 0;
        }

        int takerQueue(int w) {
            Taker t = t(w);
            return t == null ? -1 : t.queue.size();
        }

        int error(boolean isTaker, int stream) {
            if (isTaker) {
                Taker t = t(stream);
                return t == null || t.state == 0 || t.state == 3 ? -1 : t.error;
            }
            Giver g = g(stream);
            return g == null || g.state != 2 ? -1 : g.error;
        }

        int event(int i, int what) {
            int count = events.size();
            if (i < 0 || i >= count || i < count - 64 || what < 0 || what > 2) {
                return 0;
            }
            int[] event = events.get(i);
            return what == 0 ? event[0] + 32 * event[1] : event[what + 1];
        }
    }
}
