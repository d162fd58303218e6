import java.util.ArrayList;
import java.util.List;
import java.util.function.Predicate;

/**
 * For each sentence of the document's terms that names a boundary (a room of 0, an empty or a full queue, a stream that
 * is not open by then, rows that begin anew): what comes to pass on either side of it.
 */
public final class TermRuns extends Dues {
    public static void main(String[] args) {
        sizeOfChunks();
        pullWithRoomAbove0();
        pullWithRequests();
        pullAgain();
        pullNotWhenEnding();
        takeIn();
        endWithQueue();
        failOfGiver();
        failOfParted();
        cancelOfGiver();
        requestOfQueue();
        requestOfEnding();
        requestOfEnded();
        jobPulled();
        jobPulledNotOpen();
        branches();
        branchPulls();
        branchPullsAtEnd();
        partingDone();
        partingFailed();
        partedToWhom();
        partedToFull();
        partedReadsAgain();
        givenUp();
        goesOn();
        writeToWhom();
        startsFailing();
        breaks();
        breaksWithEnd();
        jobWritten();
        jobShut();
        jobAborted();
        toAbort();
        toAbortByPipe();
        toShutDownByPipe();
        pumpOfEachState();
        pumpWithRoom();
        pumpWithSixteen();
        pumpWithRequest();
        pipeOver();
        pumpsWait();
        pumpsWaitAfterCalls();
        pumpsWaitAfterJobs();
        pumpsWaitBehindJobs();
        rowsBeginAnew();
        finish();
    }

    private static FlowKernel giver(int mark, boolean byValue) {
        return made(x -> x.giver(mark, byValue));
    }

    private static FlowKernel taker(int mark) {
        return made(x -> x.taker(mark, false));
    }

    /** Giver 0, parted into 1 and 2. */
    private static FlowKernel parted() {
        return made(x -> {
            x.giver(0, false);
            x.part(0);
        });
    }

    // Chunks.

    private static void sizeOfChunks() {
        int[] chunks = {0, 1, 6, 7, 8, 9, 15, 16, -1, -7, -8, -9, Integer.MIN_VALUE, Integer.MAX_VALUE};
        int[] sizes = {0, 1, 6, 7, 0, 1, 7, 0, 7, 1, 0, 7, 0, 7};
        for (int i = 0; i < chunks.length; i++) {
            FlowKernel x = giver(20, true);
            x.giver(20, false);
            x.taker(20, true);
            x.taker(20, false);
            for (int number = 0; number <= 1; number++) {
                x.put(number, chunks[i]);
                x.write(number, chunks[i]);
                int size = number == 0 ? sizes[i] : 1;
                due(0, "size of " + chunks[i] + " in giver " + number, 20 - x.giverRoom(number), size);
                due(0, "size of " + chunks[i] + " in taker " + number, 20 - x.takerRoom(number), size);
                x.read(number);
                x.settle(number, -1);
                x.run();
                due(0, "room after " + chunks[i] + " in giver " + number, x.giverRoom(number), 20);
                due(0, "room after " + chunks[i] + " in taker " + number, x.takerRoom(number), 20);
            }
        }
    }

    // Givers.

    private static void pullWithRoomAbove0() {
        for (int size = 0; size <= 7; size++) {
            FlowKernel x = giver(3, true);
            x.pulled(0, -1);
            x.step();
            due(0, "not pulling", x.giverState(0), 0);
            x.put(0, size);
            due(0, "room", x.giverRoom(0), 3 - size);
            due(0, "pulls with room " + (3 - size), x.giverState(0), size < 3 ? 8 : 0);
            due(0, "its event", x.events(), size < 3 ? 2 : 1);
        }
        for (int mark = 0; mark <= 2; mark++) {
            FlowKernel x = giver(mark, false);
            x.pulled(0, -1);
            x.step();
            x.put(0, 5);
            due(0, "pulls with room " + (mark - 1), x.giverState(0), mark == 2 ? 8 : 0);
        }
    }

    private static void pullWithRequests() {
        FlowKernel x = giver(0, false);
        due(0, "no requests, no room", x.events(), 0);
        x.read(0);
        dueEvents(0, "one request", x, 0, noted(1, 0));
        due(0, "pulling", x.giverState(0), 8);
        FlowKernel y = giver(1, false);
        y.put(0, 1);
        y.put(0, 1);
        y.pulled(0, -1);
        y.step();
        due(0, "room below 0", y.giverState(0), 0);
        y.read(0);
        due(0, "room 0", y.giverState(0), 0);
        y.read(0);
        due(0, "room 1", y.giverState(0), 8);
    }

    private static void pullAgain() {
        FlowKernel x = giver(2, false);
        due(0, "pulling", x.giverState(0), 8);
        x.put(0, 1);
        due(0, "room 1: again", x.giverState(0), 24);
        FlowKernel y = giver(1, false);
        y.put(0, 1);
        due(0, "room 0: not again", y.giverState(0), 8);
        due(0, "one event", y.events(), 1);
        y.read(0);
        due(0, "room 1: again", y.giverState(0), 24);
        dueEvents(0, "no second pull", y, 1, noted(6, 0, 1, 1));
    }

    private static void pullNotWhenEnding() {
        FlowKernel x = giver(5, false);
        x.put(0, 1);
        x.put(0, 2);
        x.end(0);
        x.pulled(0, -1);
        x.step();
        due(0, "was to pull again, but is ending", x.giverState(0), 4);
        x.read(0);
        due(0, "room, but ending", x.giverState(0), 4);
        dueEvents(0, "the answer alone", x, 1, noted(6, 0, 1, 1));
    }

    private static void takeIn() {
        FlowKernel x = giver(0, false);
        x.read(0);
        x.read(0);
        x.put(0, 5);
        dueEvents(0, "the first request", x, 1, noted(6, 0, 1, 5));
        due(0, "one request is left: again", x.giverState(0), 24);
        x.put(0, 6);
        dueEvents(0, "the second one", x, 2, noted(6, 0, 2, 6));
        x.put(0, 7);
        x.put(0, 8);
        due(0, "no request: behind the queue", x.giverQueue(0), 2);
        x.read(0);
        x.read(0);
        dueEvents(0, "the first first", x, 3, noted(6, 0, 3, 7), noted(6, 0, 4, 8));
        FlowKernel y = giver(0, false);
        y.read(0);
        y.put(0, 5);
        due(0, "no request is left: not again", y.giverState(0), 8);
    }

    private static void endWithQueue() {
        FlowKernel empty = giver(0, false);
        times(8, () -> empty.read(0));
        empty.end(0);
        for (int i = 1; i <= 8; i++) {
            dueEvent(0, empty, i, 7, 0, i);
        }
        due(0, "eight and the pull", empty.events(), 9);
        due(0, "no requests", empty.giverQueue(0), 0);
        FlowKernel one = giver(0, false);
        one.put(0, 1);
        one.end(0);
        due(0, "open", one.giverState(0), 4);
        one.read(0);
        due(0, "closed", one.giverState(0), 5);
        FlowKernel full = giver(0, false);
        times(16, () -> full.put(0, 1));
        full.end(0);
        times(15, () -> full.read(0));
        due(0, "one is left", full.giverState(0), 4);
        full.read(0);
        due(0, "none is left", full.giverState(0), 5);
    }

    private static void failOfGiver() {
        FlowKernel x = giver(0, false);
        times(8, () -> x.read(0));
        x.fail(0, 42);
        for (int i = 1; i <= 8; i++) {
            dueEvent(0, x, i, 8, 0, i, 42);
        }
        due(0, "no requests", x.giverQueue(0), 0);
        FlowKernel full = giver(0, false);
        times(16, () -> full.put(0, 1));
        full.fail(0, 0);
        due(0, "emptied", full.giverQueue(0), 0);
        due(0, "no event", full.events(), 0);
        full.read(0);
        dueEvents(0, "nothing is left to read", full, 0, noted(8, 0, 1, 0));
    }

    private static void failOfParted() {
        FlowKernel x = parted();
        x.read(2);
        x.read(1);
        x.read(1);
        x.fail(0, 9);
        dueEvents(0, "the first branch first", x, 1, noted(8, 1, 1, 9), noted(8, 1, 2, 9), noted(8, 2, 1, 9));
        FlowKernel closed = parted();
        closed.cancel(1, 3);
        closed.fail(0, 9);
        due(0, "a closed branch stays so", closed.giverState(1), 1);
        due(0, "the open one fails", closed.giverState(2), 2);
        FlowKernel full = parted();
        fillSecond(full, 17);
        full.fail(0, 9);
        due(0, "a failed branch keeps its error", full.error(false, 2), 101);
        due(0, "the open one fails", full.error(false, 1), 9);
    }

    /** Branch 1 reads n chunks, which stay in branch 2. */
    private static void fillSecond(FlowKernel x, int n) {
        for (int i = 1; i <= n; i++) {
            x.read(1);
            x.put(0, i);
            x.run();
        }
    }

    private static void cancelOfGiver() {
        FlowKernel x = giver(0, false);
        times(8, () -> x.read(0));
        x.cancel(0, 42);
        for (int i = 1; i <= 8; i++) {
            dueEvent(0, x, i, 7, 0, i);
        }
        dueEvents(0, "after the requests", x, 9, noted(2, 0, 42));
        FlowKernel full = giver(0, false);
        times(16, () -> full.put(0, 1));
        full.cancel(0, 0);
        due(0, "emptied", full.giverQueue(0), 0);
        due(0, "closed, never ending", full.giverState(0), 1);
        full.cancel(0, 1);
        dueEvents(0, "but once", full, 0, noted(2, 0, 0));
    }

    private static void requestOfQueue() {
        FlowKernel x = giver(1, false);
        x.put(0, 5);
        x.put(0, 6);
        x.pulled(0, -1);
        x.step();
        x.read(0);
        dueEvents(0, "room 0: the answer alone", x, 1, noted(6, 0, 1, 5));
        x.read(0);
        dueEvents(0, "room 1: it pulls, then answers", x, 2, noted(1, 0), noted(6, 0, 2, 6));
        x.read(0);
        due(0, "empty: the request waits", x.giverQueue(0), 100);
        due(0, "and it is to pull again", x.giverState(0), 24);
        due(0, "no event", x.events(), 4);
    }

    private static void requestOfEnding() {
        FlowKernel x = giver(3, false);
        x.put(0, 5);
        x.put(0, 6);
        x.end(0);
        x.read(0);
        due(0, "one is left", x.giverState(0) & 7, 4);
        x.read(0);
        due(0, "none is left", x.giverState(0) & 7, 5);
        x.read(0);
        dueEvents(0, "chunks, then DONE", x, 1, noted(6, 0, 1, 5), noted(6, 0, 2, 6), noted(7, 0, 3));
        due(0, "nothing waits", x.giverQueue(0), 0);
    }

    private static void requestOfEnded() {
        FlowKernel closed = giver(0, false);
        closed.end(0);
        closed.read(0);
        dueEvents(0, "closed", closed, 0, noted(7, 0, 1));
        FlowKernel failed = giver(0, false);
        failed.fail(0, 99);
        failed.read(0);
        dueEvents(0, "failed", failed, 0, noted(8, 0, 1, 99));
        due(0, "it does not pull", failed.giverState(0), 2);
        due(0, "nor waits", failed.giverQueue(0), 0);
    }

    private static void jobPulled() {
        FlowKernel once = giver(1, false);
        once.pulled(0, -1);
        once.step();
        due(0, "not to pull again: though there is room", once.giverState(0), 0);
        FlowKernel needed = giver(2, false);
        needed.put(0, 1);
        needed.pulled(0, -1);
        needed.step();
        due(0, "to pull again, and needed", needed.giverState(0), 8);
        dueEvents(0, "a second pull", needed, 1, noted(1, 0));
        FlowKernel full = giver(2, false);
        full.put(0, 1);
        full.put(0, 1);
        full.pulled(0, -1);
        full.step();
        due(0, "to pull again, not needed", full.giverState(0), 0);
        due(0, "no second pull", full.events(), 1);
        FlowKernel wrong = giver(2, false);
        wrong.put(0, 1);
        wrong.pulled(0, 0);
        wrong.step();
        due(0, "with an error it fails, and is still to pull again", wrong.giverState(0), 18);
        due(0, "its error", wrong.error(false, 0), 0);
    }

    private static void jobPulledNotOpen() {
        for (int error = -1; error <= 0; error++) {
            FlowKernel closed = giver(2, false);
            closed.pulled(0, error);
            closed.cancel(0, 3);
            closed.step();
            due(0, "closed before the job", closed.giverState(0), 1);
            due(0, "no error", closed.error(false, 0), -1);
            due(0, "no event but its cancel", closed.events(), 2);
            FlowKernel failed = giver(2, false);
            failed.pulled(0, error);
            failed.fail(0, 3);
            failed.step();
            due(0, "failed before the job", failed.giverState(0), 2);
            due(0, "its error stays", failed.error(false, 0), 3);
            due(0, "no event", failed.events(), 1);
        }
        FlowKernel parted = giver(1, false);
        parted.part(0);
        parted.end(0);
        parted.pulled(0, 5);
        parted.step();
        due(0, "a closed root fails no branch", parted.giverState(1), 0);
        due(0, "a closed root fails no branch", parted.giverState(2), 0);
    }

    // Partings.

    private static void branches() {
        FlowKernel x = made(y -> {
            y.giver(20, true);
            y.part(0);
        });
        due(0, "mark 0", x.giverRoom(1), 0);
        due(0, "mark 0", x.giverRoom(2), 0);
        x.read(1);
        x.put(0, 7);
        x.run();
        due(0, "the second goes by count", x.giverRoom(2), -1);
        FlowKernel y = parted();
        y.read(2);
        y.put(0, 7);
        y.run();
        due(0, "the first goes by count", y.giverRoom(1), -1);
    }

    private static void branchPulls() {
        FlowKernel x = parted();
        due(0, "mark 0: no pull", x.jobs(), 0);
        x.read(1);
        dueEvents(0, "the root pulls", x, 0, noted(1, 0));
        due(0, "a request at the root", x.giverQueue(0), 100);
        due(0, "the branch's job", x.jobs(), 1);
        x.read(2);
        due(0, "reading: no second request", x.giverQueue(0), 100);
        due(0, "but a job", x.jobs(), 2);
        due(0, "no second pull of the root", x.events(), 1);
        x.read(2);
        due(0, "pulling: no third job", x.jobs(), 2);
        due(0, "but again", x.giverState(2), 24);
        FlowKernel y = parted();
        y.put(0, 5);
        y.read(2);
        due(0, "a chunk was there: its job and the branch's", y.jobs(), 2);
        due(0, "the chunk's job first", y.step(), 2);
        dueEvents(0, "the answer", y, 0, noted(6, 2, 1, 5));
        due(0, "then the branch's", y.step(), 1);
        due(0, "no more", y.step(), 0);
    }

    private static void branchPullsAtEnd() {
        FlowKernel x = parted();
        x.put(0, 5);
        x.end(0);
        due(0, "not closed while a chunk is there", x.giverState(0), 68);
        x.read(1);
        due(0, "closed by the parting's request", x.giverState(0), 69);
        due(0, "branches are still open", x.giverState(1), 8);
        x.run();
        due(0, "branches are still open", x.giverState(1), 0);
        due(0, "branches are still open", x.giverState(2), 0);
        x.read(1);
        dueEvents(0, "chunk, then DONE", x, 0, noted(6, 1, 1, 5), noted(7, 1, 2));
        due(0, "closed, and its job waits all the same", x.giverState(1), 13);
        due(0, "closed, and its job waits all the same", x.jobs(), 1);
        due(0, "the other one is ending, for it has a chunk", x.giverState(2), 4);
    }

    private static void partingDone() {
        FlowKernel x = parted();
        x.read(2);
        x.read(2);
        x.read(1);
        x.end(0);
        dueEvents(0, "the first branch first", x, 1, noted(7, 1, 1), noted(7, 2, 1), noted(7, 2, 2));
        FlowKernel unread = parted();
        unread.end(0);
        due(0, "no request waited: not told", unread.giverState(1), 0);
        due(0, "no request waited: not told", unread.giverState(2), 0);
        FlowKernel closed = parted();
        closed.read(2);
        closed.cancel(1, 1);
        closed.end(0);
        due(0, "a closed branch does not end", closed.giverState(1), 1);
        due(0, "the open one does", closed.giverState(2) & 7, 5);
        FlowKernel failed = parted();
        fillSecond(failed, 17);
        failed.read(1);
        failed.end(0);
        due(0, "a failed branch does not end", failed.giverState(2), 2);
        due(0, "the open one does", failed.giverState(1) & 7, 5);
    }

    private static void partingFailed() {
        FlowKernel x = parted();
        x.read(1);
        x.fail(0, 7);
        dueEvents(0, "the branch's answer alone", x, 1, noted(8, 1, 1, 7));
        due(0, "the branch's job still waits", x.run(), 1);
        x.read(1);
        dueEvents(0, "and later", x, 2, noted(8, 1, 2, 7));
        due(0, "no job", x.jobs(), 0);
        FlowKernel late = parted();
        late.read(1);
        late.put(0, 5);
        late.fail(0, 7);
        due(0, "the branch's job and the chunk's", late.run(), 2);
        dueEvents(0, "the chunk comes too late", late, 1, noted(8, 1, 1, 7));
        due(0, "not in the queue", late.giverQueue(1), 0);
        due(0, "not in the queue", late.giverQueue(2), 0);
    }

    private static void partedToWhom() {
        FlowKernel x = parted();
        x.read(2);
        x.read(1);
        x.put(0, 5);
        x.run();
        dueEvents(0, "the first branch first", x, 1, noted(6, 1, 1, 5), noted(6, 2, 1, 5));
        FlowKernel givenUp = parted();
        givenUp.read(1);
        givenUp.put(0, 5);
        givenUp.cancel(1, 3);
        givenUp.run();
        due(0, "not to one that is given up", givenUp.giverQueue(1), 0);
        due(0, "to the other", givenUp.giverQueue(2), 1);
        FlowKernel none = parted();
        none.read(1);
        none.put(0, 5);
        none.cancel(1, 3);
        none.cancel(2, 4);
        due(0, "the chunk's job is done", none.run(), 2);
        due(0, "to nobody", none.giverQueue(1) + none.giverQueue(2), 0);
        dueEvents(0, "the last event", none, 1, noted(7, 1, 1), noted(2, 0, 4));
    }

    private static void partedToFull() {
        FlowKernel x = parted();
        fillSecond(x, 15);
        due(0, "fifteen", x.giverQueue(2), 15);
        x.read(1);
        x.put(0, 16);
        x.run();
        due(0, "the sixteenth is taken in", x.giverQueue(2), 16);
        due(0, "open", x.giverState(2), 0);
        x.read(1);
        x.put(0, 17);
        due(0, "not before the job", x.giverQueue(2), 16);
        x.run();
        due(0, "the seventeenth", x.giverState(2), 2);
        due(0, "FULL", x.error(false, 2), 101);
        due(0, "emptied", x.giverQueue(2), 0);
        dueEvent(0, x, x.events() - 1, 6, 1, 17, 17);
        x.read(2);
        dueEvent(0, x, x.events() - 1, 8, 2, 1, 101);
        x.read(1);
        x.put(0, 18);
        x.run();
        dueEvent(0, x, x.events() - 1, 6, 1, 18, 18);
        FlowKernel read = parted();
        fillSecond(read, 16);
        read.read(1);
        read.put(0, 17);
        read.read(2);
        dueEvent(0, read, read.events() - 1, 6, 2, 1, 1);
        read.run();
        due(0, "one was read before the job", read.giverQueue(2), 16);
        due(0, "so it is open", read.giverState(2), 0);
    }

    private static void partedReadsAgain() {
        FlowKernel before = parted();
        before.read(1);
        before.read(2);
        before.put(0, 5);
        before.run();
        due(0, "to read again before the job: forgotten", before.giverQueue(0), 0);
        FlowKernel since = parted();
        since.read(1);
        since.read(1);
        since.run();
        since.put(0, 5);
        since.put(0, 6);
        due(0, "one is left", since.giverQueue(0), 1);
        due(0, "the chunk's job", since.step(), 2);
        due(0, "to read again since: it has read", since.giverQueue(0), 0);
        due(0, "the branch's job, then the chunk's", since.step(), 1);
        due(0, "the branch's job, then the chunk's", since.step(), 2);
        dueEvents(0, "both", since, 1, noted(6, 1, 1, 5), noted(6, 1, 2, 6));
        due(0, "no more", since.jobs(), 0);
        FlowKernel ended = parted();
        ended.read(1);
        ended.read(1);
        ended.run();
        ended.put(0, 5);
        ended.end(0);
        due(0, "closed", ended.giverState(0) & 3, 1);
        due(0, "the chunk's job", ended.step(), 2);
        dueEvents(0, "the chunk, then DONE for what it read since", ended, 1, noted(6, 1, 1, 5), noted(7, 1, 2));
        due(0, "the other one is ending", ended.giverState(2), 4);
    }

    private static void givenUp() {
        for (int first = 1; first <= 2; first++) {
            FlowKernel x = parted();
            x.put(0, 1);
            x.cancel(first, 5);
            due(0, "one", x.giverState(0), 64);
            x.cancel(first, 6);
            due(0, "the same again", x.giverState(0), 64);
            x.cancel(3 - first, 7);
            due(0, "both", x.giverState(0), 65);
            dueEvents(0, "with the error of the last", x, 0, noted(2, 0, 7));
            due(0, "emptied", x.giverQueue(0), 0);
        }
        FlowKernel waiting = parted();
        waiting.read(1);
        waiting.read(2);
        waiting.cancel(1, 5);
        waiting.cancel(2, 6);
        dueEvents(0, "requests first", waiting, 1, noted(7, 1, 1), noted(7, 2, 1), noted(2, 0, 6));
        due(0, "the parting's request is answered", waiting.giverQueue(0), 0);
        FlowKernel failed = parted();
        fillSecond(failed, 17);
        int events = failed.events();
        failed.cancel(2, 5);
        failed.cancel(1, 6);
        due(0, "a failed one was not cancelled", failed.giverState(0) & 3, 0);
        due(0, "no event", failed.events(), events);
        FlowKernel ended = parted();
        ended.end(0);
        ended.cancel(1, 5);
        ended.cancel(2, 6);
        due(0, "a closed root is not cancelled", ended.events(), 0);
    }

    // Takers.

    private static void goesOn() {
        FlowKernel x = taker(1);
        x.write(0, 5);
        x.write(0, 6);
        x.shut(0);
        dueEvents(0, "writing: nothing", x, 0, noted(3, 0, 5));
        x.settle(0, -1);
        x.step();
        dueEvents(0, "a chunk before the end", x, 1, noted(9, 0, 1), noted(3, 0, 6));
        due(0, "the end waits", x.takerState(0), 12);
        x.settle(0, -1);
        x.step();
        dueEvents(0, "no chunk: the end", x, 3, noted(9, 0, 2), noted(4, 0));
        due(0, "it waits no more", x.takerState(0), 16);
        FlowKernel idle = taker(1);
        idle.write(0, 5);
        idle.settle(0, -1);
        idle.step();
        dueEvents(0, "neither chunk nor end", idle, 1, noted(9, 0, 1));
        due(0, "none of these", idle.takerState(0), 0);
    }

    private static void writeToWhom() {
        FlowKernel failing = taker(1);
        failing.write(0, 5);
        failing.shut(0);
        failing.write(0, 6);
        failing.spoil(0, 8);
        failing.write(0, 7);
        dueEvents(0, "an end waits; failing comes before it", failing, 1, noted(10, 0, 2, 100), noted(10, 0, 3, 8));
        due(0, "not in the queue", failing.takerQueue(0), 1);
        failing.settle(0, -1);
        failing.step();
        failing.write(0, 8);
        dueEvent(0, failing, failing.events() - 1, 10, 0, 4, 8);
        FlowKernel shutting = taker(1);
        shutting.shut(0);
        shutting.write(0, 5);
        shutting.spoil(0, 8);
        shutting.write(0, 6);
        dueEvents(0, "shutting; failing comes before it", shutting, 1, noted(10, 0, 1, 100), noted(10, 0, 2, 8));
        shutting.settle(0, -1);
        shutting.step();
        shutting.write(0, 7);
        dueEvents(0, "closed", shutting, 3, noted(11, 0), noted(10, 0, 3, 100));
        FlowKernel aborting = taker(1);
        aborting.abort(0, 4);
        aborting.write(0, 5);
        dueEvents(0, "aborting is failed", aborting, 1, noted(10, 0, 1, 4));
    }

    private static void startsFailing() {
        FlowKernel idle = taker(1);
        idle.spoil(0, 3);
        due(0, "none of these: it breaks", idle.takerState(0), 2);
        FlowKernel writing = taker(1);
        writing.write(0, 5);
        writing.spoil(0, 3);
        due(0, "writing: failing", writing.takerState(0), 9);
        FlowKernel settled = taker(1);
        settled.write(0, 5);
        settled.settle(0, -1);
        settled.spoil(0, 3);
        due(0, "writing until the job", settled.takerState(0), 9);
        settled.step();
        due(0, "then it breaks", settled.takerState(0), 2);
        FlowKernel shutting = taker(1);
        shutting.shut(0);
        shutting.spoil(0, 3);
        due(0, "shutting: failing", shutting.takerState(0), 17);
    }

    private static void breaks() {
        FlowKernel x = taker(1);
        times(16, () -> x.write(0, 5));
        x.spoil(0, 3);
        due(0, "not yet", x.events(), 1);
        x.settle(0, -1);
        x.step();
        dueEvent(0, x, 1, 9, 0, 1);
        for (int i = 2; i <= 16; i++) {
            dueEvent(0, x, i, 10, 0, i, 3);
        }
        due(0, "no more events", x.events(), 17);
        due(0, "empty", x.takerQueue(0), 0);
        due(0, "failed", x.takerState(0), 2);
        FlowKernel one = taker(1);
        one.write(0, 5);
        one.abort(0, 3);
        one.settle(0, -1);
        one.step();
        dueEvents(0, "no chunk is left", one, 1, noted(9, 0, 1), noted(5, 0, 3));
    }

    /** A taker that breaks with an end that waits, after an abort that was late, in time or not at all. */
    private static void breaksWithEnd() {
        FlowKernel none = taker(1);
        none.write(0, 5);
        none.shut(0);
        none.spoil(0, 3);
        none.settle(0, -1);
        none.step();
        dueEvents(0, "no abort", none, 1, noted(9, 0, 1), noted(12, 0, 3));
        due(0, "the end is gone", none.takerState(0), 2);
        FlowKernel late = taker(1);
        late.write(0, 5);
        late.shut(0);
        late.spoil(0, 3);
        late.abort(0, 4);
        late.settle(0, -1);
        late.step();
        dueEvents(0, "late", late, 1, noted(9, 0, 1), noted(14, 0, 3), noted(12, 0, 3));
        due(0, "neither pending nor aborting", late.takerState(0), 2);
        FlowKernel inTime = taker(1);
        inTime.write(0, 5);
        inTime.shut(0);
        inTime.abort(0, 4);
        inTime.settle(0, 6);
        inTime.step();
        dueEvents(0, "in time", inTime, 1, noted(10, 0, 1, 6), noted(5, 0, 4));
        due(0, "the end still waits", inTime.takerState(0), 38);
        inTime.settle(0, -1);
        inTime.step();
        dueEvents(0, "aborted, then the end", inTime, 3, noted(13, 0), noted(12, 0, 4));
        due(0, "nothing more", inTime.takerState(0), 2);
    }

    private static void jobWritten() {
        FlowKernel open = taker(1);
        open.write(0, 5);
        open.write(0, 6);
        open.settle(0, 0);
        open.step();
        dueEvents(0, "open: fails with it", open, 1, noted(10, 0, 1, 0), noted(10, 0, 2, 0));
        due(0, "its error", open.error(true, 0), 0);
        FlowKernel failing = taker(1);
        failing.write(0, 5);
        failing.write(0, 6);
        failing.spoil(0, 3);
        failing.settle(0, 9);
        failing.step();
        dueEvents(0, "failing: keeps its error", failing, 1, noted(10, 0, 1, 9), noted(10, 0, 2, 3));
        due(0, "its error", failing.error(true, 0), 3);
    }

    /** A shutting taker that is open, spoilt, aborted, or both, and whose shutting goes well or not. */
    private static void jobShut() {
        int[][][] due = {
            {noted(11, 0)}, {noted(12, 0, 9)},
            {noted(11, 0)}, {noted(12, 0, 9)},
            {noted(11, 0), noted(13, 0)}, {noted(12, 0, 9), noted(14, 0, 9)},
            {noted(11, 0), noted(13, 0)}, {noted(12, 0, 9), noted(14, 0, 9)},
        };
        int[] errors = {9, 3, 4, 3};
        for (int way = 0; way < 4; way++) {
            for (int wrong = 0; wrong <= 1; wrong++) {
                FlowKernel x = taker(1);
                x.shut(0);
                if (way % 2 == 1) {
                    x.spoil(0, 3);
                }
                if (way >= 2) {
                    x.abort(0, 4);
                }
                x.settle(0, wrong == 1 ? 9 : -1);
                x.step();
                dueEvents(0, "way " + way, x, 1, due[2 * way + wrong]);
                due(0, "state, way " + way, x.takerState(0), wrong == 1 ? 2 : 3);
                due(0, "error, way " + way, x.error(true, 0), wrong == 1 ? errors[way] : -1);
            }
        }
    }

    private static void jobAborted() {
        for (int error = -1; error <= 0; error++) {
            FlowKernel x = taker(1);
            x.abort(0, 4);
            x.settle(0, error);
            x.step();
            dueEvents(0, "aborted", x, 1, error < 0 ? noted(13, 0) : noted(14, 0, 0));
            due(0, "no end waited", x.takerState(0), 2);
            due(0, "the abort's error stays", x.error(true, 0), 4);
        }
    }

    private static void toAbort() {
        FlowKernel closed = taker(1);
        closed.shut(0);
        closed.settle(0, -1);
        closed.step();
        closed.abort(0, 4);
        dueEvents(0, "closed", closed, 2, noted(13, 0));
        due(0, "that is all", closed.takerState(0), 3);
        FlowKernel failed = taker(1);
        failed.spoil(0, 3);
        failed.abort(0, 4);
        dueEvents(0, "failed", failed, 0, noted(13, 0));
        due(0, "that is all", failed.takerState(0), 2);
        due(0, "that is all", failed.error(true, 0), 3);
        FlowKernel failing = taker(1);
        failing.write(0, 5);
        failing.spoil(0, 3);
        failing.abort(0, 4);
        due(0, "failing: pending", failing.takerState(0), 73);
        due(0, "with its own error", failing.error(true, 0), 3);
        failing.settle(0, -1);
        failing.step();
        dueEvents(0, "late", failing, 1, noted(9, 0, 1), noted(14, 0, 3));
    }

    /** Only a pipe aborts a taker that is aborting or has an abort pending: a call would be refused. */
    private static void toAbortByPipe() {
        FlowKernel aborting = taker(1);
        aborting.abort(0, 4);
        aborting.giver(0, false);
        aborting.fail(0, 7);
        aborting.pipe(0, 0, 0);
        aborting.run();
        dueEvents(0, "aborting", aborting, 1, noted(13, 0), noted(16, 0, 7));
        due(0, "still aborting", aborting.takerState(0), 34);
        FlowKernel pending = taker(1);
        pending.write(0, 5);
        pending.abort(0, 4);
        pending.giver(0, false);
        pending.fail(0, 7);
        pending.pipe(0, 0, 0);
        pending.run();
        dueEvents(0, "pending", pending, 1, noted(16, 0, 7));
        due(0, "pending still", pending.takerState(0), 73);
        pending.settle(0, -1);
        pending.step();
        dueEvents(0, "the first abort's error", pending, 2, noted(9, 0, 1), noted(5, 0, 4));
    }

    /** Only a pipe shuts a taker down that is shutting or closed: a call would be refused. */
    private static void toShutDownByPipe() {
        for (int settled = 0; settled <= 1; settled++) {
            FlowKernel x = taker(1);
            x.shut(0);
            if (settled == 1) {
                x.settle(0, -1);
                x.step();
            }
            int state = x.takerState(0);
            x.giver(0, false);
            x.end(0);
            x.pipe(0, 0, 0);
            x.run();
            dueEvents(0, "shut already", x, 1 + settled, noted(15, 0));
            due(0, "nothing else", x.takerState(0), state);
        }
    }

    // Pipes.

    private static final int OPEN = 0;
    private static final int CLOSED = 1;
    private static final int FAILED = 2;
    private static final int WRITING = 3;
    private static final int END_WAITS = 4;
    private static final int SHUTTING = 5;
    private static final int FAILING = 6;

    private static void startGiver(FlowKernel x, int state) {
        x.giver(0, false);
        if (state == CLOSED) {
            x.end(0);
        } else if (state == FAILED) {
            x.fail(0, 30);
        }
    }

    private static void startTaker(FlowKernel x, int state) {
        x.taker(3, false);
        if (state == WRITING || state == END_WAITS || state == FAILING) {
            x.write(0, 5);
        }
        if (state == END_WAITS || state == SHUTTING || state == CLOSED) {
            x.shut(0);
        }
        if (state == CLOSED) {
            x.settle(0, -1);
            x.step();
        }
        if (state == FAILED || state == FAILING) {
            x.spoil(0, 20);
        }
    }

    /** The first of the pump's rows that holds, for every state of giver and taker and all flags. */
    private static void pumpOfEachState() {
        for (int giver = OPEN; giver <= FAILED; giver++) {
            for (int taker = OPEN; taker <= FAILING; taker++) {
                for (int flags = 0; flags <= 7; flags++) {
                    pumpOf(giver, taker, flags);
                }
            }
        }
    }

    private static void pumpOf(int giver, int taker, int flags) {
        FlowKernel x = new FlowKernel();
        startGiver(x, giver);
        startTaker(x, taker);
        int before = x.events();
        int state = x.takerState(0);
        x.pipe(0, 0, flags);
        x.step();
        String what = "giver " + giver + ", taker " + taker + ", flags " + flags;
        boolean idles = giver == CLOSED && (taker == WRITING || taker == END_WAITS);
        boolean asks = giver == OPEN && (taker == OPEN || taker == WRITING);
        dueEvents(0, what, x, before, eventsOfPump(giver, taker, flags));
        due(0, what + ", requests", x.giverQueue(0), asks ? 100 : 0);
        due(0, what + ", giver held", x.giverState(0) / 32, idles || asks ? 1 : 0);
        due(0, what + ", taker held", x.takerState(0) / 128, idles || asks ? 1 : 0);
        due(0, what + ", pumps that wait", x.jobs(), asks ? 1 : 0);
        due(0, what + ", taker", x.takerState(0) % 128, takerAfterPump(giver, taker, flags, state));
    }

    private static int[][] eventsOfPump(int giver, int taker, int flags) {
        boolean keeps = flags % 2 == 1;
        boolean spares = flags / 2 % 2 == 1;
        boolean leaves = flags / 4 == 1;
        List<int[]> events = new ArrayList<>();
        if (giver == FAILED) {
            if (!spares && (taker == CLOSED || taker == FAILED)) {
                events.add(noted(13, 0));
            } else if (!spares && taker == OPEN) {
                events.add(noted(5, 0, 30));
            }
            events.add(noted(16, 0, 30));
        } else if (taker == FAILED || taker == FAILING) {
            if (!leaves && giver == OPEN) {
                events.add(noted(2, 0, 20));
            }
            events.add(noted(16, 0, 20));
        } else if (giver == CLOSED) {
            if (!keeps && taker == OPEN) {
                events.add(noted(4, 0));
            }
            if (taker != WRITING && taker != END_WAITS) {
                events.add(noted(15, 0));
            }
        } else if (taker == END_WAITS || taker == SHUTTING || taker == CLOSED) {
            if (!leaves) {
                events.add(noted(2, 0, 100));
            }
            events.add(noted(16, 0, 100));
        } else {
            events.add(noted(1, 0));
        }
        return events.toArray(new int[0][]);
    }

    private static int takerAfterPump(int giver, int taker, int flags, int before) {
        boolean aborts = giver == FAILED && flags / 2 % 2 == 0;
        boolean shuts = giver == CLOSED && flags % 2 == 0;
        if (aborts && taker == OPEN) {
            return 34;
        }
        if (aborts && taker == FAILING) {
            return before + 64;
        }
        if (aborts && taker != CLOSED && taker != FAILED) {
            return before + 65;
        }
        return shuts && taker == OPEN ? 16 : before;
    }

    private static void pumpWithRoom() {
        for (int size = 2; size <= 4; size++) {
            FlowKernel x = made(y -> y.taker(3, true));
            x.write(0, size);
            x.giver(0, false);
            x.pipe(0, 0, 0);
            x.run();
            due(0, "room", x.takerRoom(0), 3 - size);
            due(0, "asks with room " + (3 - size), x.giverQueue(0), size == 2 ? 100 : 0);
        }
        FlowKernel none = taker(0);
        none.giver(0, false);
        none.pipe(0, 0, 0);
        due(0, "one that idles", none.run(), 1);
        due(0, "mark 0: never asks", none.giverQueue(0), 0);
    }

    private static void pumpWithSixteen() {
        for (int count = 15; count <= 16; count++) {
            FlowKernel x = made(y -> y.taker(20, true));
            times(count, () -> x.write(0, 8));
            x.giver(0, false);
            x.put(0, 5);
            x.pipe(0, 0, 0);
            due(0, "pumps with " + count, x.run(), count == 15 ? 2 : 1);
            due(0, "taken with " + count, x.giverQueue(0), count - 15);
            due(0, "sixteen", x.takerQueue(0), 16);
        }
    }

    private static void pumpWithRequest() {
        FlowKernel x = taker(2);
        x.giver(0, false);
        x.pipe(0, 0, 0);
        due(0, "asks, then idles", x.run(), 2);
        x.taker(0, false);
        due(0, "idles while its request waits", x.run(), 1);
        due(0, "one request", x.giverQueue(0), 100);
        x.put(0, 5);
        due(0, "the answer is a write", x.takerQueue(0), 1);
        due(0, "asks again, then idles", x.run(), 2);
        x.put(0, 6);
        due(0, "no room: idles", x.run(), 1);
        due(0, "no request", x.giverQueue(0), 0);
    }

    private static void pipeOver() {
        FlowKernel x = taker(2);
        x.giver(1, false);
        x.pipe(0, 0, 4);
        x.run();
        x.spoil(0, 3);
        due(0, "its request waits", x.giverQueue(0), 100);
        x.run();
        due(0, "its request is gone", x.giverQueue(0), 0);
        due(0, "held by nobody", x.giverState(0), 24);
        x.put(0, 5);
        due(0, "a chunk stays in the queue", x.giverQueue(0), 1);
        due(0, "no pump waits any more", x.jobs(), 0);
        due(0, "no write was made", x.write(0, 1), 1);
    }

    // Pumps.

    /** Pipe 0 from giver 0 to taker 0 and pipe 1 from giver 1 to taker 1; no pump waits. */
    private static FlowKernel twoPipes() {
        return made(x -> {
            x.giver(0, false);
            x.giver(0, false);
            x.taker(2, false);
            x.taker(2, false);
            x.pipe(0, 0, 0);
            x.pipe(1, 1, 0);
            x.run();
        });
    }

    private static void pumpsWait() {
        FlowKernel x = twoPipes();
        due(0, "none waits", x.jobs(), 0);
        x.fail(1, 8);
        due(0, "one for each pipe", x.jobs(), 2);
        x.fail(0, 7);
        due(0, "for which none waits", x.jobs(), 2);
        int before = x.events();
        x.step();
        x.step();
        dueEvents(0, "the lesser number first", x, before,
            noted(5, 0, 7), noted(16, 0, 7), noted(5, 1, 8), noted(16, 1, 8));
        FlowKernel asked = twoPipes();
        asked.giverState(0);
        asked.giverRoom(0);
        asked.giverQueue(0);
        asked.takerState(0);
        asked.takerRoom(0);
        asked.takerQueue(0);
        asked.error(true, 0);
        asked.events();
        asked.event(0, 0);
        asked.jobs();
        asked.step();
        asked.run();
        due(0, "none after questions, step and run", asked.jobs(), 0);
        due(0, "refused", asked.put(2, 1), false);
        due(0, "refused", asked.settle(0, -1), false);
        due(0, "none after refused calls", asked.jobs(), 0);
    }

    private static void pumpsWaitAfterCalls() {
        pumpsAfter("giver", x -> x.giver(0, false) == 3);
        pumpsAfter("put", x -> x.put(2, 1));
        pumpsAfter("end", x -> x.end(2));
        pumpsAfter("fail", x -> x.fail(2, 1));
        pumpsAfter("read", x -> x.read(2) == 1);
        pumpsAfter("cancel", x -> x.cancel(2, 1));
        pumpsAfter("spoil", x -> x.spoil(0, 1));
        pumpsAfter("part", x -> x.part(2) == 3);
        pumpsAfter("taker", x -> x.taker(0, false) == 1);
        pumpsAfter("write", x -> x.taker(0, false) == 1 && x.run() == 1 && x.write(1, 1) == 1);
        pumpsAfter("shut", x -> x.taker(0, false) == 1 && x.run() == 1 && x.shut(1));
        pumpsAfter("abort", x -> x.taker(0, false) == 1 && x.run() == 1 && x.abort(1, 1));
        pumpsAfter("a cancel of a closed one", x -> x.end(2) && x.run() == 1 && x.cancel(2, 1));
        FlowKernel pulled = onePipe();
        pulled.pulled(0, -1);
        due(0, "after pulled, behind its job", pulled.jobs(), 2);
        due(0, "after pulled, behind its job", pulled.step(), 1);
        FlowKernel settled = onePipe();
        settled.put(0, 1);
        settled.run();
        settled.settle(0, -1);
        due(0, "after settle, behind its job", settled.jobs(), 2);
        due(0, "after settle, behind its job", settled.step(), 3);
        FlowKernel piped = onePipe();
        piped.taker(0, false);
        piped.run();
        piped.pipe(2, 1, 0);
        due(0, "after pipe, for both", piped.jobs(), 2);
    }

    private static void pumpsAfter(String call, Predicate<FlowKernel> taken) {
        FlowKernel x = onePipe();
        due(0, call + " is taken", taken.test(x), true);
        due(0, "a pump waits after " + call, x.jobs(), 1);
        due(0, "a pump waits after " + call, x.step(), 6);
    }

    /** Pipe 0 from giver 0 to taker 0, a request waits; givers 1 and 2 are free; no pump waits. */
    private static FlowKernel onePipe() {
        return made(x -> {
            times(3, () -> x.giver(0, false));
            x.taker(2, false);
            x.pipe(0, 0, 0);
            x.run();
        });
    }

    private static void pumpsWaitAfterJobs() {
        FlowKernel x = twoPipes();
        x.pulled(0, -1);
        due(0, "a job, and two pumps", x.jobs(), 3);
        x.step();
        due(0, "two wait already", x.jobs(), 2);
        x.step();
        due(0, "one idled", x.jobs(), 1);
        x.step();
        due(0, "both idled", x.jobs(), 0);
        FlowKernel over = twoPipes();
        over.fail(0, 7);
        over.step();
        due(0, "a pump that ends its pipe is followed by that of the other, which waits", over.jobs(), 1);
        due(0, "it idles", over.step(), 6);
        due(0, "none waits", over.jobs(), 0);
        FlowKernel second = twoPipes();
        second.fail(1, 7);
        due(0, "the first idles", second.step(), 6);
        due(0, "the second ends its pipe", second.step(), 6);
        due(0, "so the first waits again", second.jobs(), 1);
        due(0, "and idles", second.step(), 6);
        due(0, "none waits", second.jobs(), 0);
    }

    /** A pump waits already when the job comes behind it, so that the next one can only come from the job. */
    private static void pumpsWaitBehindJobs() {
        for (int kind = 1; kind <= 5; kind++) {
            FlowKernel x = onePipe();
            x.taker(1, false);
            x.run();
            startJob(x, kind);
            due(0, "the pump that waited", x.step(), 6);
            due(0, "no pump waits now", x.jobs(), 1);
            due(0, "the job", x.step(), kind);
            due(0, "a pump waits after job " + kind, x.jobs(), 1);
            due(0, "a pump waits after job " + kind, x.step(), 6);
            due(0, "and idles", x.jobs(), 0);
        }
    }

    /** A job of this kind waits behind a pump. */
    private static void startJob(FlowKernel x, int kind) {
        if (kind == 1) {
            x.read(1);
            x.pulled(1, -1);
        } else if (kind == 2) {
            x.part(1);
            x.read(3);
            x.run();
            x.put(2, 1);
            x.put(1, 1);
        } else if (kind == 3) {
            x.write(1, 1);
            x.settle(1, -1);
        } else if (kind == 4) {
            x.shut(1);
            x.settle(1, -1);
        } else {
            x.abort(1, 1);
            x.settle(1, -1);
        }
    }

    // Rows that begin anew after many chunks, requests, writes and jobs.

    private static void rowsBeginAnew() {
        for (int shift = 0; shift <= 16; shift++) {
            FlowKernel x = giver(0, false);
            x.taker(0, false);
            for (int i = 0; i < shift; i++) {
                x.put(0, i);
                x.read(0);
                x.read(0);
                x.put(0, i);
                x.write(0, i);
                x.settle(0, -1);
                x.pulled(0, -1);
                due(0, "two jobs", x.run(), 2);
            }
            int before = x.events();
            for (int i = 0; i < 16; i++) {
                x.put(0, 200 + i);
            }
            times(24, () -> x.read(0));
            due(0, "eight wait", x.giverQueue(0), 800);
            for (int i = 16; i < 24; i++) {
                x.put(0, 200 + i);
            }
            for (int i = 0; i < 16; i++) {
                dueEvent(0, x, before + i, 6, 0, 2 * shift + 1 + i, 200 + i);
            }
            dueEvent(0, x, before + 16, 1, 0);
            for (int i = 16; i < 24; i++) {
                dueEvent(0, x, before + 1 + i, 6, 0, 2 * shift + 1 + i, 200 + i);
            }
            due(0, "queue and requests are empty", x.giverQueue(0), 0);
            int after = x.events();
            times(16, () -> x.write(0, 9));
            x.settle(0, 5);
            x.run();
            dueEvent(0, x, after, 3, 0, 9);
            for (int i = 1; i <= 16; i++) {
                dueEvent(0, x, after + i, 10, 0, shift + i, 5);
            }
            due(0, "no more", x.events(), after + 17);
        }
    }
}
