import java.util.function.Consumer;

/**
 * For each sentence of the promises that names a boundary: the last input on either side of it, what a refused call
 * answers and that it changes nothing, and, of several reasons to refuse, that the first one named is the answer.
 */
public final class EdgeRuns extends Dues {
    private static final int[] NO_GIVERS = {-1, 6, 7, Integer.MIN_VALUE, Integer.MAX_VALUE};
    private static final int[] NO_TAKERS = {-1, 2, 3, Integer.MIN_VALUE, Integer.MAX_VALUE};
    private static final int[] NO_MARKS = {-1, 21, Integer.MIN_VALUE, Integer.MAX_VALUE};
    private static final int[] NO_ERRORS = {-1, 100, 101, Integer.MIN_VALUE, Integer.MAX_VALUE};
    private static final int[] NO_ERRORS_OR_NONE = {-2, 100, 101, Integer.MIN_VALUE, Integer.MAX_VALUE};
    private static final int[] NO_FLAGS = {-1, 8, 9, Integer.MIN_VALUE, Integer.MAX_VALUE};

    public static void main(String[] args) {
        newObject();
        giverMarks();
        giverCount();
        takerMarks();
        takerCount();
        putRefused();
        putIntoFullQueue();
        putToRequests();
        endRefused();
        endTaken();
        failRefused();
        failTaken();
        pulledRefused();
        pulledTaken();
        readRefused();
        readEightRequests();
        cancelRefused();
        cancelTaken();
        writeRefused();
        writeSixteen();
        shutRefused();
        shutTaken();
        abortRefused();
        abortTaken();
        spoilRefused();
        spoilTaken();
        settleRefused();
        settleTaken();
        pipeRefused();
        pipeFirstReason();
        pipeTaken();
        partRefused();
        partFirstReason();
        partTaken();
        stepNone();
        runUntilNoneWaits();
        jobsWaiting();
        jobsOfAll();
        askedOfNone();
        giverStateParts();
        giverRoomEdges();
        giverQueueEdges();
        takerStateParts();
        takerRoomEdges();
        takerQueueEdges();
        errorEdges();
        eventsCounted();
        eventLatest();
        eventWhat();
        lastOf512();
        finish();
    }

    // Beginnings that several tests share.

    private static void root(FlowKernel x) {
        x.giver(0, false);
    }

    private static void pullingRoot(FlowKernel x) {
        x.giver(1, false);
    }

    private static void closedRoot(FlowKernel x) {
        x.giver(1, false);
        x.end(0);
    }

    private static void failedRoot(FlowKernel x) {
        x.giver(1, false);
        x.fail(0, 5);
    }

    private static void endingRoot(FlowKernel x) {
        x.giver(2, false);
        x.put(0, 1);
        x.end(0);
    }

    /** Givers 1 and 2 are the branches of 0; both are pulling, and a request waits at the root. */
    private static void parted(FlowKernel x) {
        x.giver(0, false);
        x.part(0);
        x.read(1);
        x.read(2);
    }

    /** Giver 0 and taker 0 are held by a pipe, whose request waits. */
    private static void piped(FlowKernel x) {
        x.giver(1, false);
        x.taker(2, false);
        x.pipe(0, 0, 0);
        x.run();
    }

    private static void taker(FlowKernel x) {
        x.taker(2, false);
    }

    private static void writing(FlowKernel x) {
        x.taker(2, false);
        x.write(0, 1);
    }

    private static void endWaits(FlowKernel x) {
        writing(x);
        x.shut(0);
    }

    private static void shutting(FlowKernel x) {
        x.taker(2, false);
        x.shut(0);
    }

    private static void closedTaker(FlowKernel x) {
        shutting(x);
        x.settle(0, -1);
        x.run();
    }

    private static void failing(FlowKernel x) {
        writing(x);
        x.spoil(0, 6);
    }

    private static void failedTaker(FlowKernel x) {
        x.taker(2, false);
        x.spoil(0, 6);
    }

    private static void abortPending(FlowKernel x) {
        writing(x);
        x.abort(0, 7);
    }

    private static void lateAbortPending(FlowKernel x) {
        failing(x);
        x.abort(0, 7);
    }

    private static void aborting(FlowKernel x) {
        x.taker(2, false);
        x.abort(0, 7);
    }

    private static Consumer<FlowKernel> givers(int n) {
        return x -> times(n, () -> x.giver(1, false));
    }

    private static void sixteenPut(FlowKernel x) {
        x.giver(3, false);
        times(16, () -> x.put(0, 4));
    }

    private static void sixteenWritten(FlowKernel x) {
        x.taker(3, false);
        times(16, () -> x.write(0, 4));
    }

    // Promise 1.

    private static void newObject() {
        FlowKernel x = new FlowKernel();
        due(1, "no givers", x.giverState(0), -1);
        due(1, "no takers", x.takerState(0), -1);
        due(1, "no jobs", x.jobs(), 0);
        due(1, "no job to do", x.run(), 0);
        due(1, "no events", x.events(), 0);
        due(1, "no first event", x.event(0, 0), 0);
        x.giver(0, false);
        x.taker(0, false);
        due(1, "no pipes", x.pipe(0, 0, 0), 0);
    }

    // Promise 2.

    private static void giverMarks() {
        for (int mark : NO_MARKS) {
            refused(2, "mark " + mark, x -> { }, x -> x.giver(mark, false), -1);
            refused(2, "by value, mark " + mark, x -> { }, x -> x.giver(mark, true), -1);
        }
        for (int mark = 0; mark <= 20; mark++) {
            FlowKernel x = new FlowKernel();
            due(2, "mark " + mark, x.giver(mark, mark % 2 == 0), 0);
            due(2, "room of mark " + mark, x.giverRoom(0), mark);
            due(2, "pulls with mark " + mark, x.giverState(0), mark == 0 ? 0 : 8);
            due(2, "events with mark " + mark, x.events(), mark == 0 ? 0 : 1);
        }
    }

    private static void giverCount() {
        FlowKernel x = new FlowKernel();
        for (int i = 0; i < 6; i++) {
            due(2, "giver " + i, x.giver(0, false), i);
        }
        refused(2, "six are there", givers(6), y -> y.giver(0, false), -2);
        refused(2, "six are there, mark 20", givers(6), y -> y.giver(20, true), -2);
        refused(2, "six with branches", y -> {
            givers(4).accept(y);
            y.part(0);
        }, y -> y.giver(0, false), -2);
        for (int mark : NO_MARKS) {
            refused(2, "six are there and mark " + mark, givers(6), y -> y.giver(mark, false), -1);
        }
    }

    // Promise 3.

    private static void takerMarks() {
        for (int mark : NO_MARKS) {
            refused(3, "mark " + mark, x -> { }, x -> x.taker(mark, false), -1);
            refused(3, "by value, mark " + mark, x -> { }, x -> x.taker(mark, true), -1);
        }
        for (int mark = 0; mark <= 20; mark++) {
            FlowKernel x = new FlowKernel();
            due(3, "mark " + mark, x.taker(mark, mark % 2 == 0), 0);
            due(3, "room of mark " + mark, x.takerRoom(0), mark);
            due(3, "open with mark " + mark, x.takerState(0), 0);
            due(3, "events with mark " + mark, x.events(), 0);
        }
    }

    private static void takerCount() {
        FlowKernel x = new FlowKernel();
        due(3, "the first", x.taker(0, false), 0);
        due(3, "the second", x.taker(0, false), 1);
        Consumer<FlowKernel> two = y -> {
            y.taker(1, false);
            y.taker(1, false);
        };
        refused(3, "two are there", two, y -> y.taker(0, false), -2);
        for (int mark : NO_MARKS) {
            refused(3, "two are there and mark " + mark, two, y -> y.taker(mark, false), -1);
        }
    }

    // Promise 4.

    private static void putRefused() {
        for (int r : NO_GIVERS) {
            isFalse(4, "no giver " + r, EdgeRuns::root, x -> x.put(r, 1));
        }
        isFalse(4, "no giver 1 yet", EdgeRuns::root, x -> x.put(1, 1));
        isFalse(4, "first branch", EdgeRuns::parted, x -> x.put(1, 1));
        isFalse(4, "second branch", EdgeRuns::parted, x -> x.put(2, 1));
        isFalse(4, "closed", EdgeRuns::closedRoot, x -> x.put(0, 1));
        isFalse(4, "failed", EdgeRuns::failedRoot, x -> x.put(0, 1));
        isFalse(4, "ending", EdgeRuns::endingRoot, x -> x.put(0, 1));
        isFalse(4, "sixteen", EdgeRuns::sixteenPut, x -> x.put(0, 1));
        isFalse(4, "sixteen, size 0", EdgeRuns::sixteenPut, x -> x.put(0, 0));
        isFalse(4, "sixteen and ending", x -> {
            sixteenPut(x);
            x.end(0);
        }, x -> x.put(0, 1));
    }

    private static void putIntoFullQueue() {
        FlowKernel x = made(EdgeRuns::root);
        for (int i = 1; i <= 16; i++) {
            due(4, "chunk " + i, x.put(0, 100 + i), true);
            due(4, "queue", x.giverQueue(0), i);
        }
        due(4, "the seventeenth", x.put(0, 117), false);
        due(4, "sixteen", x.giverQueue(0), 16);
        x.read(0);
        dueEvent(4, x, 0, 6, 0, 1, 101);
        due(4, "fifteen: taken", x.put(0, 118), true);
        due(4, "sixteen again", x.giverQueue(0), 16);
        due(4, "sixteen again: refused", x.put(0, 119), false);
        times(16, () -> x.read(0));
        dueEvent(4, x, 15, 6, 0, 16, 116);
        dueEvent(4, x, 16, 6, 0, 17, 118);
        FlowKernel y = made(z -> {
            z.giver(20, true);
            times(16, () -> z.put(0, 8));
        });
        due(4, "there is room", y.giverRoom(0), 20);
        due(4, "but sixteen are there", y.put(0, 8), false);
        FlowKernel held = made(EdgeRuns::parted);
        times(17, () -> held.put(0, 1));
        due(4, "a parted root, too", held.giverQueue(0), 16);
        due(4, "a parted root, too", held.put(0, 1), false);
    }

    private static void putToRequests() {
        FlowKernel x = made(EdgeRuns::root);
        times(8, () -> x.read(0));
        for (int i = 1; i <= 8; i++) {
            due(4, "to a request", x.put(0, 10 + i), true);
            dueEvent(4, x, i, 6, 0, i, 10 + i);
            due(4, "requests left", x.giverQueue(0), 100 * (8 - i));
        }
        due(4, "none is left: into the queue", x.put(0, 19), true);
        due(4, "queue", x.giverQueue(0), 1);
    }

    // Promise 5.

    private static void endRefused() {
        for (int r : NO_GIVERS) {
            isFalse(5, "no giver " + r, EdgeRuns::root, x -> x.end(r));
        }
        isFalse(5, "no giver 1 yet", EdgeRuns::root, x -> x.end(1));
        isFalse(5, "first branch", EdgeRuns::parted, x -> x.end(1));
        isFalse(5, "second branch", EdgeRuns::parted, x -> x.end(2));
        isFalse(5, "closed", EdgeRuns::closedRoot, x -> x.end(0));
        isFalse(5, "failed", EdgeRuns::failedRoot, x -> x.end(0));
        isFalse(5, "ending", EdgeRuns::endingRoot, x -> x.end(0));
        isFalse(5, "cancelled", x -> {
            root(x);
            x.cancel(0, 1);
        }, x -> x.end(0));
    }

    private static void endTaken() {
        FlowKernel empty = made(EdgeRuns::root);
        due(5, "empty", empty.end(0), true);
        due(5, "closes at once", empty.giverState(0), 5);
        FlowKernel one = made(EdgeRuns::root);
        one.put(0, 1);
        due(5, "one chunk", one.end(0), true);
        due(5, "only ending", one.giverState(0), 4);
        FlowKernel held = made(EdgeRuns::piped);
        due(5, "a held one", held.end(0), true);
        due(5, "closed and held", held.giverState(0) & ~24, 37);
    }

    // Promise 6.

    private static void failRefused() {
        for (int r : NO_GIVERS) {
            isFalse(6, "no giver " + r, EdgeRuns::root, x -> x.fail(r, 1));
        }
        isFalse(6, "no giver 1 yet", EdgeRuns::root, x -> x.fail(1, 1));
        isFalse(6, "first branch", EdgeRuns::parted, x -> x.fail(1, 1));
        isFalse(6, "second branch", EdgeRuns::parted, x -> x.fail(2, 1));
        isFalse(6, "closed", EdgeRuns::closedRoot, x -> x.fail(0, 1));
        isFalse(6, "failed", EdgeRuns::failedRoot, x -> x.fail(0, 1));
        for (int error : NO_ERRORS) {
            isFalse(6, "error " + error, EdgeRuns::root, x -> x.fail(0, error));
        }
    }

    private static void failTaken() {
        for (int error = 0; error <= 99; error += 99) {
            int e = error;
            FlowKernel x = made(EdgeRuns::root);
            due(6, "error " + error, x.fail(0, e), true);
            due(6, "error " + error, x.error(false, 0), e);
        }
        FlowKernel ending = made(EdgeRuns::endingRoot);
        due(6, "an ending one is open", ending.fail(0, 3), true);
        due(6, "failed", ending.giverState(0) & 7, 6);
        FlowKernel held = made(EdgeRuns::piped);
        due(6, "a held one", held.fail(0, 3), true);
    }

    // Promise 7.

    private static void pulledRefused() {
        for (int r : NO_GIVERS) {
            isFalse(7, "no giver " + r, EdgeRuns::pullingRoot, x -> x.pulled(r, -1));
        }
        isFalse(7, "no giver 1 yet", EdgeRuns::pullingRoot, x -> x.pulled(1, -1));
        isFalse(7, "first branch, whose job waits", EdgeRuns::parted, x -> x.pulled(1, -1));
        isFalse(7, "second branch, whose job waits", EdgeRuns::parted, x -> x.pulled(2, -1));
        isFalse(7, "not pulling", EdgeRuns::root, x -> x.pulled(0, -1));
        isFalse(7, "not pulling, with an error", EdgeRuns::root, x -> x.pulled(0, 4));
        Consumer<FlowKernel> waits = x -> {
            pullingRoot(x);
            x.pulled(0, -1);
        };
        isFalse(7, "such a job waits", waits, x -> x.pulled(0, -1));
        isFalse(7, "such a job waits, with an error", waits, x -> x.pulled(0, 4));
        isFalse(7, "such a job was done", x -> {
            waits.accept(x);
            x.step();
        }, x -> x.pulled(0, -1));
        for (int error : NO_ERRORS_OR_NONE) {
            isFalse(7, "error " + error, EdgeRuns::pullingRoot, x -> x.pulled(0, error));
        }
    }

    private static void pulledTaken() {
        for (int error : new int[] {-1, 0, 99}) {
            FlowKernel x = made(EdgeRuns::pullingRoot);
            due(7, "error " + error, x.pulled(0, error), true);
            due(7, "one waits", x.jobs(), 1);
            due(7, "its job", x.step(), 1);
            due(7, "failed or not", x.error(false, 0), error);
        }
        FlowKernel others = made(givers(2));
        due(7, "giver 0", others.pulled(0, -1), true);
        due(7, "a job of another giver waits", others.pulled(1, -1), true);
        FlowKernel closed = made(EdgeRuns::closedRoot);
        due(7, "closed, but pulling", closed.pulled(0, -1), true);
        FlowKernel failed = made(EdgeRuns::failedRoot);
        due(7, "failed, but pulling", failed.pulled(0, 9), true);
        failed.step();
        due(7, "its error stays", failed.error(false, 0), 5);
        FlowKernel again = made(EdgeRuns::pullingRoot);
        again.read(0);
        again.pulled(0, -1);
        again.step();
        due(7, "pulling once more", again.pulled(0, -1), true);
    }

    // Promise 8.

    private static void readRefused() {
        for (int r : NO_GIVERS) {
            refused(8, "no giver " + r, EdgeRuns::root, x -> x.read(r), -1);
        }
        refused(8, "no giver 1 yet", EdgeRuns::root, x -> x.read(1), -1);
        refused(8, "held by a pipe", EdgeRuns::piped, x -> x.read(0), -2);
        refused(8, "held by a parting", EdgeRuns::parted, x -> x.read(0), -2);
        refused(8, "closed, but held by a parting", x -> {
            closedRoot(x);
            x.part(0);
        }, x -> x.read(0), -2);
        refused(8, "eight wait", x -> {
            root(x);
            times(8, () -> x.read(0));
        }, x -> x.read(0), -3);
        refused(8, "eight wait at a branch", x -> {
            parted(x);
            times(7, () -> x.read(1));
        }, x -> x.read(1), -3);
    }

    private static void readEightRequests() {
        FlowKernel x = made(EdgeRuns::root);
        for (int i = 1; i <= 8; i++) {
            due(8, "read " + i, x.read(0), i);
            due(8, "requests", x.giverQueue(0), 100 * i);
        }
        due(8, "the ninth", x.read(0), -3);
        x.put(0, 1);
        due(8, "seven wait", x.read(0), 9);
        due(8, "eight wait again", x.read(0), -3);
        x.end(0);
        due(8, "none waits at a closed one", x.giverQueue(0), 0);
        due(8, "read 10", x.read(0), 10);
        dueEvent(8, x, x.events() - 1, 7, 0, 10);
        FlowKernel over = made(EdgeRuns::piped);
        over.fail(0, 2);
        over.run();
        due(8, "held no more", over.read(0), 1);
        FlowKernel branches = made(EdgeRuns::parted);
        due(8, "branches are not held", branches.read(1), 2);
        due(8, "branches are not held", branches.read(2), 2);
    }

    // Promise 9.

    private static void cancelRefused() {
        for (int r : NO_GIVERS) {
            isFalse(9, "no giver " + r, EdgeRuns::root, x -> x.cancel(r, 1));
        }
        isFalse(9, "no giver 1 yet", EdgeRuns::root, x -> x.cancel(1, 1));
        isFalse(9, "held by a pipe", EdgeRuns::piped, x -> x.cancel(0, 1));
        isFalse(9, "held by a parting", EdgeRuns::parted, x -> x.cancel(0, 1));
        for (int error : NO_ERRORS) {
            isFalse(9, "error " + error, EdgeRuns::root, x -> x.cancel(0, error));
            isFalse(9, "closed and error " + error, EdgeRuns::closedRoot, x -> x.cancel(0, error));
        }
    }

    private static void cancelTaken() {
        for (int error = 0; error <= 99; error += 99) {
            FlowKernel x = made(EdgeRuns::root);
            due(9, "error " + error, x.cancel(0, error), true);
            dueEvent(9, x, 0, 2, 0, error);
        }
        FlowKernel closed = made(EdgeRuns::closedRoot);
        due(9, "closed", closed.cancel(0, 1), true);
        due(9, "nothing is done", closed.events(), 1);
        due(9, "nothing is done", closed.giverState(0), 13);
        FlowKernel failed = made(EdgeRuns::failedRoot);
        due(9, "failed", failed.cancel(0, 1), true);
        due(9, "nothing is done", failed.events(), 1);
        due(9, "nothing is done", failed.error(false, 0), 5);
        FlowKernel ending = made(EdgeRuns::endingRoot);
        due(9, "an ending one is open", ending.cancel(0, 1), true);
        due(9, "emptied", ending.giverQueue(0), 0);
        dueEvent(9, ending, 1, 2, 0, 1);
    }

    // Promise 10.

    private static void writeRefused() {
        for (int w : NO_TAKERS) {
            refused(10, "no taker " + w, EdgeRuns::taker, x -> x.write(w, 1), -1);
        }
        refused(10, "no taker 1 yet", EdgeRuns::taker, x -> x.write(1, 1), -1);
        refused(10, "held", EdgeRuns::piped, x -> x.write(0, 1), -2);
        refused(10, "sixteen", EdgeRuns::sixteenWritten, x -> x.write(0, 1), -3);
        refused(10, "sixteen of one that is failing", x -> {
            sixteenWritten(x);
            x.spoil(0, 6);
        }, x -> x.write(0, 1), -3);
        refused(10, "sixteen of one with an end that waits", x -> {
            sixteenWritten(x);
            x.shut(0);
        }, x -> x.write(0, 1), -3);
        refused(10, "sixteen and held", x -> {
            sixteenWritten(x);
            root(x);
            x.pipe(0, 0, 0);
        }, x -> x.write(0, 1), -2);
    }

    private static void writeSixteen() {
        FlowKernel x = made(y -> y.taker(20, true));
        for (int i = 1; i <= 16; i++) {
            due(10, "write " + i, x.write(0, 8 * i), i);
            due(10, "queue", x.takerQueue(0), i);
        }
        due(10, "there is room", x.takerRoom(0), 20);
        due(10, "but sixteen are there", x.write(0, 8), -3);
        x.settle(0, -1);
        due(10, "not written yet", x.write(0, 8), -3);
        x.run();
        due(10, "fifteen are there", x.write(0, 8), 17);
        due(10, "sixteen again", x.write(0, 8), -3);
        FlowKernel closed = made(EdgeRuns::closedTaker);
        due(10, "closed, but not refused", closed.write(0, 8), 1);
        FlowKernel failed = made(EdgeRuns::failedTaker);
        due(10, "failed, but not refused", failed.write(0, 8), 1);
    }

    // Promise 11.

    private static void shutRefused() {
        for (int w : NO_TAKERS) {
            isFalse(11, "no taker " + w, EdgeRuns::taker, x -> x.shut(w));
        }
        isFalse(11, "no taker 1 yet", EdgeRuns::taker, x -> x.shut(1));
        isFalse(11, "held", EdgeRuns::piped, x -> x.shut(0));
        isFalse(11, "closed", EdgeRuns::closedTaker, x -> x.shut(0));
        isFalse(11, "failed", EdgeRuns::failedTaker, x -> x.shut(0));
        isFalse(11, "failed and aborting", EdgeRuns::aborting, x -> x.shut(0));
        isFalse(11, "an end waits", EdgeRuns::endWaits, x -> x.shut(0));
        isFalse(11, "shutting", EdgeRuns::shutting, x -> x.shut(0));
        isFalse(11, "failing, and an end waits", x -> {
            failing(x);
            x.shut(0);
        }, x -> x.shut(0));
        isFalse(11, "failing and shutting", x -> {
            shutting(x);
            x.spoil(0, 3);
        }, x -> x.shut(0));
    }

    private static void shutTaken() {
        FlowKernel open = made(EdgeRuns::taker);
        due(11, "open", open.shut(0), true);
        due(11, "shutting at once", open.takerState(0), 16);
        FlowKernel busy = made(EdgeRuns::writing);
        due(11, "writing", busy.shut(0), true);
        due(11, "an end waits", busy.takerState(0), 12);
        FlowKernel fails = made(EdgeRuns::failing);
        due(11, "failing", fails.shut(0), true);
        due(11, "an end waits", fails.takerState(0), 13);
        FlowKernel over = made(EdgeRuns::root);
        taker(over);
        over.pipe(0, 0, 1);
        over.end(0);
        due(11, "held until the pump", over.shut(0), false);
        over.run();
        due(11, "held no more", over.shut(0), true);
    }

    // Promise 12.

    private static void abortRefused() {
        for (int w : NO_TAKERS) {
            isFalse(12, "no taker " + w, EdgeRuns::taker, x -> x.abort(w, 1));
        }
        isFalse(12, "no taker 1 yet", EdgeRuns::taker, x -> x.abort(1, 1));
        isFalse(12, "held", EdgeRuns::piped, x -> x.abort(0, 1));
        isFalse(12, "pending", EdgeRuns::abortPending, x -> x.abort(0, 1));
        isFalse(12, "late, pending", EdgeRuns::lateAbortPending, x -> x.abort(0, 1));
        isFalse(12, "aborting", EdgeRuns::aborting, x -> x.abort(0, 1));
        for (int error : NO_ERRORS) {
            isFalse(12, "error " + error, EdgeRuns::taker, x -> x.abort(0, error));
            isFalse(12, "closed and error " + error, EdgeRuns::closedTaker, x -> x.abort(0, error));
        }
    }

    private static void abortTaken() {
        for (int error = 0; error <= 99; error += 99) {
            FlowKernel x = made(EdgeRuns::taker);
            due(12, "error " + error, x.abort(0, error), true);
            dueEvent(12, x, 0, 5, 0, error);
        }
        FlowKernel closed = made(EdgeRuns::closedTaker);
        due(12, "closed", closed.abort(0, 1), true);
        due(12, "closed, twice", closed.abort(0, 1), true);
        FlowKernel failed = made(EdgeRuns::failedTaker);
        due(12, "failed", failed.abort(0, 1), true);
        FlowKernel aborted = made(EdgeRuns::aborting);
        aborted.settle(0, -1);
        due(12, "aborting until the job", aborted.abort(0, 1), false);
        aborted.run();
        due(12, "aborting no more", aborted.abort(0, 1), true);
    }

    // Promise 13.

    private static void spoilRefused() {
        for (int w : NO_TAKERS) {
            isFalse(13, "no taker " + w, EdgeRuns::taker, x -> x.spoil(w, 1));
        }
        isFalse(13, "no taker 1 yet", EdgeRuns::taker, x -> x.spoil(1, 1));
        isFalse(13, "failing", EdgeRuns::failing, x -> x.spoil(0, 1));
        isFalse(13, "failed", EdgeRuns::failedTaker, x -> x.spoil(0, 1));
        isFalse(13, "aborting", EdgeRuns::aborting, x -> x.spoil(0, 1));
        isFalse(13, "closed", EdgeRuns::closedTaker, x -> x.spoil(0, 1));
        for (int error : NO_ERRORS) {
            isFalse(13, "error " + error, EdgeRuns::taker, x -> x.spoil(0, error));
        }
    }

    private static void spoilTaken() {
        for (int error = 0; error <= 99; error += 99) {
            FlowKernel x = made(EdgeRuns::taker);
            due(13, "error " + error, x.spoil(0, error), true);
            due(13, "error " + error, x.error(true, 0), error);
        }
        due(13, "held", made(EdgeRuns::piped).spoil(0, 1), true);
        due(13, "writing", made(EdgeRuns::writing).spoil(0, 1), true);
        due(13, "an end waits", made(EdgeRuns::endWaits).spoil(0, 1), true);
        due(13, "shutting", made(EdgeRuns::shutting).spoil(0, 1), true);
    }

    // Promise 14.

    private static void settleRefused() {
        for (int w : NO_TAKERS) {
            isFalse(14, "no taker " + w, EdgeRuns::writing, x -> x.settle(w, -1));
        }
        isFalse(14, "no taker 1 yet", EdgeRuns::writing, x -> x.settle(1, -1));
        isFalse(14, "none of these", EdgeRuns::taker, x -> x.settle(0, -1));
        isFalse(14, "closed", EdgeRuns::closedTaker, x -> x.settle(0, -1));
        isFalse(14, "failed", EdgeRuns::failedTaker, x -> x.settle(0, -1));
        settleRefusedWhile("writing", EdgeRuns::writing);
        settleRefusedWhile("shutting", EdgeRuns::shutting);
        settleRefusedWhile("aborting", EdgeRuns::aborting);
    }

    private static void settleRefusedWhile(String doing, Consumer<FlowKernel> start) {
        isFalse(14, doing + ", such a job waits", x -> {
            start.accept(x);
            x.settle(0, -1);
        }, x -> x.settle(0, 2));
        isFalse(14, doing + ", such a job with an error waits", x -> {
            start.accept(x);
            x.settle(0, 2);
        }, x -> x.settle(0, -1));
        for (int error : NO_ERRORS_OR_NONE) {
            isFalse(14, doing + ", error " + error, start, x -> x.settle(0, error));
        }
    }

    private static void settleTaken() {
        for (int error : new int[] {-1, 0, 99}) {
            FlowKernel written = made(EdgeRuns::writing);
            due(14, "writing, error " + error, written.settle(0, error), true);
            due(14, "job", written.step(), 3);
            dueEvents(14, "written", written, 1, error < 0 ? noted(9, 0, 1) : noted(10, 0, 1, error));
            FlowKernel shut = made(EdgeRuns::shutting);
            due(14, "shutting, error " + error, shut.settle(0, error), true);
            due(14, "job", shut.step(), 4);
            dueEvents(14, "shut", shut, 1, error < 0 ? noted(11, 0) : noted(12, 0, error));
            FlowKernel aborted = made(EdgeRuns::aborting);
            due(14, "aborting, error " + error, aborted.settle(0, error), true);
            due(14, "job", aborted.step(), 5);
            dueEvents(14, "aborted", aborted, 1, error < 0 ? noted(13, 0) : noted(14, 0, error));
        }
        FlowKernel two = made(EdgeRuns::writing);
        two.taker(1, false);
        two.write(1, 5);
        two.write(1, 6);
        two.settle(0, -1);
        due(14, "a job of another taker waits", two.settle(1, -1), true);
        two.run();
        due(14, "the next chunk", two.settle(1, -1), true);
        due(14, "nothing more to write", two.settle(0, -1), false);
    }

    // Promise 15.

    private static void pipeRefused() {
        Consumer<FlowKernel> one = x -> {
            root(x);
            taker(x);
        };
        for (int r : NO_GIVERS) {
            refused(15, "no giver " + r, one, x -> x.pipe(r, 0, 0), -1);
        }
        for (int w : NO_TAKERS) {
            refused(15, "no taker " + w, one, x -> x.pipe(0, w, 0), -1);
        }
        refused(15, "no giver 1 yet", one, x -> x.pipe(1, 0, 0), -1);
        refused(15, "no taker 1 yet", one, x -> x.pipe(0, 1, 0), -1);
        for (int flags : NO_FLAGS) {
            refused(15, "flags " + flags, one, x -> x.pipe(0, 0, flags), -1);
        }
        Consumer<FlowKernel> more = x -> {
            piped(x);
            root(x);
            taker(x);
        };
        refused(15, "giver held by a pipe", more, x -> x.pipe(0, 1, 0), -2);
        refused(15, "taker held", more, x -> x.pipe(1, 0, 0), -2);
        refused(15, "both held", more, x -> x.pipe(0, 0, 0), -2);
        refused(15, "giver held by a parting", x -> {
            parted(x);
            taker(x);
        }, x -> x.pipe(0, 0, 0), -2);
        refused(15, "a request waits", x -> {
            one.accept(x);
            x.read(0);
        }, x -> x.pipe(0, 0, 0), -2);
        refused(15, "a request waits at a branch", x -> {
            parted(x);
            taker(x);
        }, x -> x.pipe(1, 0, 0), -2);
        refused(15, "there were two", EdgeRuns::twoPipes, x -> x.pipe(2, 0, 0), -3);
    }

    /** Pipe 0 is over, pipe 1 is not; giver 2 and taker 0 are free, a request waits at giver 3. */
    private static void twoPipes(FlowKernel x) {
        times(4, () -> x.giver(0, false));
        taker(x);
        taker(x);
        x.read(3);
        x.pipe(0, 0, 2);
        x.pipe(1, 1, 0);
        x.fail(0, 1);
        x.run();
    }

    private static void pipeFirstReason() {
        refused(15, "held, and no such taker", EdgeRuns::piped, x -> x.pipe(0, 1, 0), -1);
        refused(15, "held, and no such giver", EdgeRuns::piped, x -> x.pipe(1, 0, 0), -1);
        refused(15, "held, and flags 8", EdgeRuns::piped, x -> x.pipe(0, 0, 8), -1);
        refused(15, "two pipes, and no such taker", EdgeRuns::twoPipes, x -> x.pipe(2, 2, 0), -1);
        refused(15, "two pipes, and no such giver", EdgeRuns::twoPipes, x -> x.pipe(4, 0, 0), -1);
        refused(15, "two pipes, and flags -1", EdgeRuns::twoPipes, x -> x.pipe(2, 0, -1), -1);
        refused(15, "two pipes, and a giver is held", EdgeRuns::twoPipes, x -> x.pipe(1, 0, 0), -2);
        refused(15, "two pipes, and a taker is held", EdgeRuns::twoPipes, x -> x.pipe(2, 1, 0), -2);
        refused(15, "two pipes, and a request waits", EdgeRuns::twoPipes, x -> x.pipe(3, 0, 0), -2);
        refused(15, "two pipes, held, flags 8", EdgeRuns::twoPipes, x -> x.pipe(1, 1, 8), -1);
        refused(15, "a request waits, and flags 8", EdgeRuns::twoPipes, x -> x.pipe(3, 0, 8), -1);
    }

    private static void pipeTaken() {
        for (int flags = 0; flags <= 7; flags++) {
            FlowKernel x = made(EdgeRuns::root);
            taker(x);
            due(15, "flags " + flags, x.pipe(0, 0, flags), 0);
            due(15, "giver held", x.giverState(0), 32);
            due(15, "taker held", x.takerState(0), 128);
        }
        FlowKernel answered = made(EdgeRuns::root);
        taker(answered);
        answered.read(0);
        answered.put(0, 1);
        due(15, "no request waits any more", answered.pipe(0, 0, 0), 0);
        FlowKernel again = made(EdgeRuns::root);
        taker(again);
        again.pipe(0, 0, 7);
        again.fail(0, 3);
        again.run();
        due(15, "held no more: the same two again", again.pipe(0, 0, 7), 1);
        again.run();
        due(15, "there were two", again.pipe(0, 0, 7), -3);
        FlowKernel ended = made(EdgeRuns::closedTaker);
        closedRoot(ended);
        due(15, "a closed giver and a closed taker", ended.pipe(0, 0, 0), 0);
    }

    // Promise 16.

    private static void partRefused() {
        for (int r : NO_GIVERS) {
            refused(16, "no giver " + r, EdgeRuns::root, x -> x.part(r), -1);
        }
        refused(16, "no giver 1 yet", EdgeRuns::root, x -> x.part(1), -1);
        refused(16, "held by a pipe", EdgeRuns::piped, x -> x.part(0), -2);
        refused(16, "parted already", EdgeRuns::parted, x -> x.part(0), -2);
        Consumer<FlowKernel> quiet = x -> {
            root(x);
            x.part(0);
        };
        refused(16, "first branch", quiet, x -> x.part(1), -2);
        refused(16, "second branch", quiet, x -> x.part(2), -2);
        refused(16, "a request waits", x -> {
            root(x);
            x.read(0);
        }, x -> x.part(0), -2);
        refused(16, "five givers", givers(5), x -> x.part(0), -3);
        refused(16, "six givers", givers(6), x -> x.part(5), -3);
    }

    private static void partFirstReason() {
        for (int n = 5; n <= 6; n++) {
            int all = n;
            refused(16, n + " givers, and no such one", givers(n), x -> x.part(6), -1);
            refused(16, n + " givers, and a request waits", x -> {
                givers(all).accept(x);
                x.read(0);
            }, x -> x.part(0), -2);
            refused(16, n + " givers, and held by a pipe", x -> {
                piped(x);
                givers(all - 1).accept(x);
            }, x -> x.part(0), -2);
            Consumer<FlowKernel> branched = x -> {
                root(x);
                x.part(0);
                givers(all - 3).accept(x);
            };
            refused(16, n + " givers, and parted", branched, x -> x.part(0), -2);
            refused(16, n + " givers, and a branch", branched, x -> x.part(2), -2);
        }
        refused(16, "five givers, and no sixth one", givers(5), x -> x.part(5), -1);
    }

    private static void partTaken() {
        for (int n = 1; n <= 4; n++) {
            for (int r = 0; r < n; r++) {
                FlowKernel x = made(givers(n));
                due(16, "one of " + n, x.part(r), n);
                due(16, "held", x.giverState(r), 72);
                due(16, "first branch", x.giverState(n), 0);
                due(16, "second branch", x.giverState(n + 1), 0);
                due(16, "no third", x.giverState(n + 2), -1);
            }
        }
        FlowKernel over = made(EdgeRuns::piped);
        over.end(0);
        over.run();
        due(16, "held no more", over.part(0), 1);
        FlowKernel answered = made(EdgeRuns::root);
        answered.read(0);
        answered.put(0, 1);
        due(16, "no request waits any more", answered.part(0), 1);
        FlowKernel closed = made(EdgeRuns::closedRoot);
        due(16, "closed", closed.part(0), 1);
        due(16, "its branches end", closed.giverState(1), 5);
        due(16, "its branches end", closed.giverState(2), 5);
        due(16, "no event", closed.events(), 1);
        FlowKernel failed = made(EdgeRuns::failedRoot);
        due(16, "failed", failed.part(0), 1);
        due(16, "its branches fail", failed.error(false, 1), 5);
        due(16, "its branches fail", failed.error(false, 2), 5);
        FlowKernel ending = made(EdgeRuns::endingRoot);
        due(16, "ending", ending.part(0), 1);
        due(16, "its branches do not end yet", ending.giverState(1), 0);
        due(16, "its branches do not end yet", ending.giverState(2), 0);
    }

    // Promises 17 to 19.

    private static void stepNone() {
        FlowKernel x = made(EdgeRuns::pullingRoot);
        due(17, "none waits", x.step(), 0);
        due(17, "nothing is done", x.giverState(0), 8);
        x.pulled(0, -1);
        due(17, "one waits", x.step(), 1);
        due(17, "none waits", x.step(), 0);
        FlowKernel held = made(EdgeRuns::piped);
        due(17, "a step that finds none brings no pump", held.step(), 0);
        due(17, "no pump", held.jobs(), 0);
    }

    /** Two parted givers, a branch of each piped, the other one read: as many jobs as we know to bring about. */
    private static void busy(FlowKernel x) {
        x.giver(0, false);
        x.part(0);
        x.giver(0, false);
        x.part(3);
        x.taker(20, false);
        x.taker(20, false);
        times(16, () -> x.put(0, 1));
        times(16, () -> x.put(3, 2));
        x.pipe(1, 0, 0);
        x.pipe(4, 1, 0);
        times(8, () -> x.read(2));
        times(8, () -> x.read(5));
    }

    private static void runUntilNoneWaits() {
        due(18, "none waits", made(EdgeRuns::root).run(), 0);
        FlowKernel one = made(EdgeRuns::pullingRoot);
        one.pulled(0, -1);
        due(18, "one waits", one.run(), 1);
        due(18, "none waits any more", one.run(), 0);
        FlowKernel all = made(EdgeRuns::busy);
        FlowKernel stepped = made(EdgeRuns::busy);
        int done = all.run();
        int steps = 0;
        while (steps < 200 && stepped.step() != 0) {
            steps++;
        }
        due(18, "as many as single steps", done, steps);
        due(18, "more than a hundred", done > 100, true);
        due(18, "until none waits", all.jobs(), 0);
        due(18, "the same events", all.events(), stepped.events());
        due(18, "all is taken", all.takerQueue(0), 16);
        due(18, "all is taken", all.takerQueue(1), 16);
    }

    private static void jobsWaiting() {
        FlowKernel x = made(givers(6));
        for (int r = 0; r < 6; r++) {
            due(19, "before", x.jobs(), r);
            x.pulled(r, -1);
        }
        due(19, "six", x.jobs(), 6);
        x.taker(1, false);
        x.taker(1, false);
        x.write(0, 1);
        x.write(1, 1);
        x.settle(0, -1);
        x.settle(1, -1);
        x.pipe(0, 0, 0);
        x.pipe(1, 1, 0);
        due(19, "one for each giver, taker and pipe", x.jobs(), 10);
    }

    /** All that can wait at once: for four branches, two partings, two roots, two takers and two pipes. */
    private static void jobsOfAll() {
        FlowKernel x = made(givers(2));
        x.part(0);
        x.part(1);
        for (int w = 0; w <= 1; w++) {
            x.taker(2, false);
            x.write(w, 1);
            x.pipe(2 + 2 * w, w, 0);
        }
        x.step();
        x.step();
        x.read(3);
        x.read(5);
        for (int i = 0; i <= 1; i++) {
            x.put(i, 1);
        }
        for (int i = 0; i <= 1; i++) {
            x.pulled(i, -1);
        }
        for (int i = 0; i <= 1; i++) {
            x.settle(i, -1);
        }
        due(19, "twelve", x.jobs(), 12);
        int[] order = {1, 6, 1, 6, 1, 1, 2, 2, 1, 1, 3, 3};
        for (int kind : order) {
            due(19, "the first first", x.step(), kind);
        }
    }

    // Promises 20 to 26.

    private static void askedOfNone() {
        FlowKernel x = made(EdgeRuns::failedRoot);
        failedTaker(x);
        int[] noGivers = {-1, 1, 5, 6, Integer.MIN_VALUE, Integer.MAX_VALUE};
        for (int r : noGivers) {
            due(20, "no giver " + r, x.giverState(r), -1);
            due(21, "no giver " + r, x.giverRoom(r), -1000);
            due(22, "no giver " + r, x.giverQueue(r), -1);
            due(26, "no giver " + r, x.error(false, r), -1);
        }
        int[] noTakers = {-1, 1, 2, Integer.MIN_VALUE, Integer.MAX_VALUE};
        for (int w : noTakers) {
            due(23, "no taker " + w, x.takerState(w), -1);
            due(24, "no taker " + w, x.takerRoom(w), -1000);
            due(25, "no taker " + w, x.takerQueue(w), -1);
            due(26, "no taker " + w, x.error(true, w), -1);
        }
        FlowKernel all = made(givers(6));
        all.taker(0, false);
        all.taker(0, false);
        due(20, "the last giver", all.giverState(5), 8);
        due(21, "the last giver", all.giverRoom(5), 1);
        due(22, "the last giver", all.giverQueue(5), 0);
        due(23, "the last taker", all.takerState(1), 0);
        due(24, "the last taker", all.takerRoom(1), 0);
        due(25, "the last taker", all.takerQueue(1), 0);
    }

    private static void giverStateParts() {
        due(20, "open", made(EdgeRuns::root).giverState(0), 0);
        due(20, "pulling", made(EdgeRuns::pullingRoot).giverState(0), 8);
        due(20, "closed, was ending", made(EdgeRuns::closedRoot).giverState(0), 13);
        due(20, "failed", made(EdgeRuns::failedRoot).giverState(0), 10);
        due(20, "ending", made(EdgeRuns::endingRoot).giverState(0), 28);
        due(20, "held by a pipe", made(EdgeRuns::piped).giverState(0), 56);
        due(20, "held by a parting", made(EdgeRuns::parted).giverState(0), 72);
        due(20, "cancelled, not ending", made(x -> {
            root(x);
            x.cancel(0, 1);
        }).giverState(0), 1);
    }

    private static void giverRoomEdges() {
        FlowKernel x = made(y -> y.giver(0, true));
        times(16, () -> x.put(0, 7));
        due(21, "the least", x.giverRoom(0), -112);
        x.end(0);
        due(21, "ending is open", x.giverRoom(0), -112);
        x.cancel(0, 1);
        due(21, "closed", x.giverRoom(0), 0);
        due(21, "failed", made(EdgeRuns::failedRoot).giverRoom(0), 0);
        due(21, "closed with a mark", made(EdgeRuns::closedRoot).giverRoom(0), 0);
        due(21, "the most", made(y -> y.giver(20, true)).giverRoom(0), 20);
    }

    private static void giverQueueEdges() {
        FlowKernel x = made(EdgeRuns::sixteenPut);
        due(22, "sixteen", x.giverQueue(0), 16);
        times(16, () -> x.read(0));
        due(22, "none", x.giverQueue(0), 0);
        times(8, () -> x.read(0));
        due(22, "eight requests", x.giverQueue(0), 800);
        due(22, "a parting's request", made(EdgeRuns::parted).giverQueue(0), 100);
        due(22, "a pipe's request", made(EdgeRuns::piped).giverQueue(0), 100);
    }

    private static void takerStateParts() {
        due(23, "open", made(EdgeRuns::taker).takerState(0), 0);
        due(23, "writing", made(EdgeRuns::writing).takerState(0), 8);
        due(23, "writing, an end waits", made(EdgeRuns::endWaits).takerState(0), 12);
        due(23, "shutting", made(EdgeRuns::shutting).takerState(0), 16);
        due(23, "closed", made(EdgeRuns::closedTaker).takerState(0), 3);
        due(23, "failing, writing", made(EdgeRuns::failing).takerState(0), 9);
        due(23, "failed", made(EdgeRuns::failedTaker).takerState(0), 2);
        due(23, "an abort is pending", made(EdgeRuns::abortPending).takerState(0), 73);
        due(23, "a late one is pending", made(EdgeRuns::lateAbortPending).takerState(0), 73);
        due(23, "aborting", made(EdgeRuns::aborting).takerState(0), 34);
        due(23, "held", made(EdgeRuns::piped).takerState(0), 128);
    }

    private static void takerRoomEdges() {
        FlowKernel x = made(y -> y.taker(0, true));
        times(16, () -> x.write(0, 7));
        due(24, "the least", x.takerRoom(0), -112);
        x.shut(0);
        due(24, "with an end it is open", x.takerRoom(0), -112);
        x.spoil(0, 1);
        due(24, "failing", x.takerRoom(0), 0);
        due(24, "failed", made(EdgeRuns::failedTaker).takerRoom(0), 0);
        due(24, "closed", made(EdgeRuns::closedTaker).takerRoom(0), 0);
        due(24, "shutting is open", made(EdgeRuns::shutting).takerRoom(0), 2);
        due(24, "the most", made(y -> y.taker(20, true)).takerRoom(0), 20);
    }

    private static void takerQueueEdges() {
        FlowKernel x = made(EdgeRuns::sixteenWritten);
        due(25, "sixteen", x.takerQueue(0), 16);
        x.spoil(0, 1);
        due(25, "failing keeps them", x.takerQueue(0), 16);
        x.settle(0, -1);
        due(25, "until the job", x.takerQueue(0), 16);
        x.run();
        due(25, "broken", x.takerQueue(0), 0);
    }

    private static void errorEdges() {
        due(26, "open giver", made(EdgeRuns::root).error(false, 0), -1);
        due(26, "closed giver", made(EdgeRuns::closedRoot).error(false, 0), -1);
        due(26, "failed giver", made(EdgeRuns::failedRoot).error(false, 0), 5);
        due(26, "open taker", made(EdgeRuns::writing).error(true, 0), -1);
        due(26, "failing taker", made(EdgeRuns::failing).error(true, 0), 6);
        due(26, "failed taker", made(EdgeRuns::failedTaker).error(true, 0), 6);
        due(26, "closed taker", made(EdgeRuns::closedTaker).error(true, 0), -1);
        due(26, "the late abort's error is not the taker's", made(EdgeRuns::lateAbortPending).error(true, 0), 6);
        FlowKernel both = made(EdgeRuns::failedRoot);
        taker(both);
        due(26, "of the taker, not of the giver", both.error(true, 0), -1);
        FlowKernel zero = made(EdgeRuns::root);
        zero.fail(0, 0);
        due(26, "error 0", zero.error(false, 0), 0);
        FlowKernel cleared = made(EdgeRuns::shutting);
        cleared.spoil(0, 4);
        due(26, "failing while it shuts", cleared.error(true, 0), 4);
        cleared.settle(0, -1);
        cleared.run();
        due(26, "closed all the same", cleared.error(true, 0), -1);
    }

    // Promises 27 and 28.

    /** Each read of a closed giver is one event. */
    private static FlowKernel withEvents(int n) {
        FlowKernel x = made(EdgeRuns::root);
        x.end(0);
        times(n, () -> x.read(0));
        return x;
    }

    private static void eventsCounted() {
        for (int n : new int[] {0, 1, 63, 64, 65, 127, 128, 129, 400}) {
            due(27, n + " reads", withEvents(n).events(), n);
        }
    }

    private static void eventLatest() {
        for (int n : new int[] {1, 63, 64, 65, 66, 127, 128, 129, 192, 193, 400}) {
            FlowKernel x = withEvents(n);
            int first = Math.max(0, n - 64);
            for (int i = first - 1; i <= first + 1; i++) {
                boolean told = i >= first && i < n;
                due(28, "kind of " + i + " of " + n, x.event(i, 0), told ? 7 : 0);
                due(28, "number of " + i + " of " + n, x.event(i, 1), told ? i + 1 : 0);
            }
            due(28, "the latest of " + n, x.event(n - 1, 1), n);
            due(28, "none after " + n, x.event(n, 0), 0);
            due(28, "none after " + n, x.event(n, 1), 0);
            due(28, "none before the first", x.event(-1, 1), 0);
            due(28, "64 further", x.event(n + 63, 1), 0);
            due(28, "the least int", x.event(Integer.MIN_VALUE, 1), 0);
            due(28, "the greatest int", x.event(Integer.MAX_VALUE, 1), 0);
        }
    }

    private static void eventWhat() {
        FlowKernel x = made(givers(6));
        x.fail(5, 9);
        x.read(5);
        due(28, "what 0", x.event(6, 0), 8 + 32 * 5);
        due(28, "what 1", x.event(6, 1), 1);
        due(28, "what 2", x.event(6, 2), 9);
        for (int what : new int[] {-1, 3, 4, Integer.MIN_VALUE, Integer.MAX_VALUE}) {
            due(28, "what " + what, x.event(6, what), 0);
        }
        due(28, "no numbers of a pull", x.event(5, 1), 0);
        due(28, "no numbers of a pull", x.event(5, 2), 0);
    }

    private static void lastOf512() {
        FlowKernel x = made(EdgeRuns::root);
        x.end(0);
        for (int i = 1; i <= 508; i++) {
            due(8, "read " + i, x.read(0), i);
        }
        due(27, "call 511", x.events(), 508);
        due(28, "call 512", x.event(507, 1), 508);
    }
}
