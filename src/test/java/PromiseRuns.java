/** For each promise of the document: ordinary inputs, the edges that it names, and wrong inputs. */
public final class PromiseRuns extends Dues {
    private static FlowKernel withGiver(int mark, boolean byValue) {
        FlowKernel x = new FlowKernel();
        x.giver(mark, byValue);
        return x;
    }

    private static FlowKernel withTaker(int mark, boolean byValue) {
        FlowKernel x = new FlowKernel();
        x.taker(mark, byValue);
        return x;
    }

    /** Giver 0 with mark 0, piped to taker 0, whose pump has asked already. */
    private static FlowKernel withPipe(int takerMark, int flags) {
        FlowKernel x = new FlowKernel();
        x.giver(0, false);
        x.taker(takerMark, false);
        x.pipe(0, 0, flags);
        x.run();
        return x;
    }

    /** Giver 0, parted into 1 and 2. */
    private static FlowKernel withParting(int mark) {
        FlowKernel x = withGiver(mark, false);
        x.part(0);
        return x;
    }

    public static void main(String[] args) {
        newObject();
        giver();
        taker();
        put();
        end();
        fail();
        pulled();
        pulledWhenNotOpen();
        read();
        readOfQueue();
        cancel();
        write();
        writeWhenItFails();
        shut();
        abort();
        abortWhileShutting();
        spoil();
        settle();
        settleWithError();
        pipeRefusals();
        pipeEnds();
        pipeOfFailedGiver();
        pipeToFailedTaker();
        pipeToShutTaker();
        pipeWithRoom();
        pipeAnsweredTooLate();
        pumpsAfterCalls();
        part();
        partOfEndedGiver();
        partingReads();
        partingReadsAgain();
        partingFull();
        partingEnds();
        partingCancelled();
        step();
        run();
        jobs();
        giverState();
        giverRoom();
        giverQueue();
        takerState();
        takerRoom();
        takerQueue();
        error();
        events();
        event();
        refusedChangesNothing();
        finish();
    }

    private static void newObject() {
        FlowKernel x = new FlowKernel();
        due(1, "events", x.events(), 0);
        due(1, "jobs", x.jobs(), 0);
        due(1, "giver 0", x.giverState(0), -1);
        due(1, "taker 0", x.takerState(0), -1);
        due(1, "step", x.step(), 0);
        due(1, "event", x.event(0, 0), 0);
        x.giver(1, false);
        x.taker(1, false);
        FlowKernel y = new FlowKernel();
        due(1, "another object's events", y.events(), 0);
        due(1, "another object's giver", y.giverState(0), -1);
        due(1, "first pipe", x.pipe(0, 0, 0), 0);
    }

    private static void giver() {
        FlowKernel x = new FlowKernel();
        due(2, "mark -1", x.giver(-1, false), -1);
        due(2, "mark 21", x.giver(21, true), -1);
        due(2, "least int", x.giver(Integer.MIN_VALUE, true), -1);
        due(2, "mark 0", x.giver(0, false), 0);
        due(2, "mark 0 does not pull", x.events(), 0);
        due(2, "state of mark 0", x.giverState(0), 0);
        due(2, "mark 20", x.giver(20, true), 1);
        due(2, "mark 20 pulls", x.events(), 1);
        dueEvent(2, x, 0, 1, 1);
        due(2, "state of mark 20", x.giverState(1), 8);
        for (int i = 2; i < 6; i++) {
            due(2, "giver " + i, x.giver(1, false), i);
        }
        due(2, "the seventh", x.giver(1, false), -2);
        due(2, "the seventh with a wrong mark", x.giver(21, false), -1);
        due(2, "events", x.events(), 5);
        FlowKernel y = withParting(0);
        due(2, "after a parting", y.giver(0, false), 3);
        due(2, "and one", y.giver(0, false), 4);
        due(2, "and one", y.giver(0, false), 5);
        due(2, "branches count too", y.giver(0, false), -2);
    }

    private static void taker() {
        FlowKernel x = new FlowKernel();
        due(3, "mark -1", x.taker(-1, false), -1);
        due(3, "mark 21", x.taker(21, false), -1);
        due(3, "mark 0", x.taker(0, false), 0);
        due(3, "mark 20", x.taker(20, true), 1);
        due(3, "the third", x.taker(1, false), -2);
        due(3, "the third with a wrong mark", x.taker(-1, false), -1);
        due(3, "state", x.takerState(1), 0);
        due(3, "room", x.takerRoom(1), 20);
        due(3, "events", x.events(), 0);
    }

    private static void put() {
        FlowKernel x = withGiver(2, false);
        due(4, "no giver", x.put(1, 5), false);
        due(4, "no giver", x.put(-1, 5), false);
        due(4, "first", x.put(0, 5), true);
        due(4, "is to pull again", x.giverState(0), 24);
        due(4, "queue", x.giverQueue(0), 1);
        for (int i = 1; i < 16; i++) {
            due(4, "chunk " + i, x.put(0, i), true);
        }
        due(4, "the seventeenth", x.put(0, 17), false);
        due(4, "queue", x.giverQueue(0), 16);
        due(4, "room", x.giverRoom(0), -14);
        x.read(0);
        due(4, "there is a place again", x.put(0, 17), true);
        x.end(0);
        x.read(0);
        due(4, "ending", x.put(0, 1), false);

        FlowKernel y = withGiver(0, false);
        y.read(0);
        y.read(0);
        due(4, "with requests", y.put(0, 9), true);
        dueEvent(4, y, 1, 6, 0, 1, 9);
        due(4, "one request left", y.giverQueue(0), 100);
        due(4, "pulls again", y.giverState(0), 24);
        y.fail(0, 3);
        due(4, "failed", y.put(0, 1), false);

        FlowKernel z = withParting(0);
        due(4, "branch", z.put(1, 1), false);
        due(4, "parted root", z.put(0, 1), true);
        FlowKernel pulls = withGiver(1, false);
        pulls.pulled(0, -1);
        pulls.put(0, 1);
        pulls.run();
        due(4, "no room, no pull", pulls.giverState(0), 0);
        due(4, "no room, no pull", pulls.events(), 1);
        pulls.put(0, 2);
        due(4, "no room, no pull", pulls.giverState(0), 0);
    }

    private static void end() {
        FlowKernel x = withGiver(1, false);
        due(5, "no giver", x.end(1), false);
        x.read(0);
        x.read(0);
        due(5, "ends", x.end(0), true);
        due(5, "closed", x.giverState(0) & 7, 5);
        dueEvent(5, x, 1, 7, 0, 1);
        dueEvent(5, x, 2, 7, 0, 2);
        due(5, "again", x.end(0), false);
        due(5, "no requests", x.giverQueue(0), 0);

        FlowKernel y = withGiver(0, false);
        y.put(0, 1);
        due(5, "with a queue", y.end(0), true);
        due(5, "open and ending", y.giverState(0), 4);
        due(5, "ending already", y.end(0), false);
        y.read(0);
        due(5, "closed by the read", y.giverState(0), 5);
        dueEvent(5, y, 0, 6, 0, 1, 1);
        due(5, "no more events", y.events(), 1);

        FlowKernel z = withParting(0);
        due(5, "branch", z.end(2), false);
        z.fail(0, 1);
        due(5, "failed", z.end(0), false);
        FlowKernel c = withGiver(0, false);
        c.cancel(0, 1);
        due(5, "closed", c.end(0), false);
    }

    private static void fail() {
        FlowKernel x = withGiver(0, false);
        due(6, "no giver", x.fail(1, 3), false);
        due(6, "error -1", x.fail(0, -1), false);
        due(6, "error 100", x.fail(0, 100), false);
        x.read(0);
        x.read(0);
        due(6, "fails", x.fail(0, 99), true);
        dueEvent(6, x, 1, 8, 0, 1, 99);
        dueEvent(6, x, 2, 8, 0, 2, 99);
        due(6, "state", x.giverState(0) & 7, 2);
        due(6, "error", x.error(false, 0), 99);
        due(6, "again", x.fail(0, 3), false);

        FlowKernel y = withGiver(0, false);
        y.put(0, 1);
        y.put(0, 2);
        y.end(0);
        due(6, "ending one", y.fail(0, 0), true);
        due(6, "queue is emptied", y.giverQueue(0), 0);
        due(6, "state", y.giverState(0), 6);
        due(6, "error", y.error(false, 0), 0);

        FlowKernel z = withParting(0);
        due(6, "branch", z.fail(1, 3), false);
        z.read(2);
        z.read(1);
        z.cancel(1, 8);
        due(6, "parted", z.fail(0, 7), true);
        due(6, "cancelled branch stays closed", z.giverState(1) & 3, 1);
        due(6, "branch fails", z.error(false, 2), 7);
        dueEvent(6, z, 2, 8, 2, 1, 7);
        FlowKernel both = withParting(0);
        both.read(2);
        both.read(1);
        both.fail(0, 6);
        dueEvent(6, both, 1, 8, 1, 1, 6);
        dueEvent(6, both, 2, 8, 2, 1, 6);
        FlowKernel closed = withGiver(0, false);
        closed.end(0);
        due(6, "closed", closed.fail(0, 3), false);
    }

    private static void pulled() {
        FlowKernel x = withGiver(3, false);
        due(7, "no giver", x.pulled(1, -1), false);
        due(7, "error -2", x.pulled(0, -2), false);
        due(7, "error 100", x.pulled(0, 100), false);
        due(7, "none", x.pulled(0, -1), true);
        due(7, "one waits", x.pulled(0, -1), false);
        due(7, "still pulling", x.giverState(0), 8);
        due(7, "job", x.step(), 1);
        due(7, "not pulling", x.giverState(0), 0);
        due(7, "not pulling: refused", x.pulled(0, -1), false);
        due(7, "no second pull by itself", x.events(), 1);
        x.put(0, 1);
        due(7, "pulls after a put", x.giverState(0), 8);
        x.put(0, 1);
        due(7, "to pull again", x.giverState(0), 24);
        x.pulled(0, -1);
        x.step();
        due(7, "pulls at once", x.giverState(0), 8);
        due(7, "its event", x.events(), 3);
        x.put(0, 1);
        due(7, "no room: nothing to pull for", x.giverState(0), 8);
        due(7, "error 99", x.pulled(0, 99), true);
        x.read(0);
        x.step();
        due(7, "failed, still to pull again", x.giverState(0), 18);
        due(7, "error", x.error(false, 0), 99);
        FlowKernel z = withParting(0);
        z.read(1);
        z.run();
        z.read(1);
        due(7, "branch", z.pulled(1, -1), false);
        due(7, "parted root", z.pulled(0, 0), true);
        z.run();
        due(7, "branch failed with it", z.error(false, 1), 0);
    }

    private static void pulledWhenNotOpen() {
        FlowKernel x = withGiver(3, false);
        x.put(0, 1);
        x.fail(0, 5);
        due(7, "failed, pulling and to pull again", x.giverState(0), 26);
        due(7, "taken", x.pulled(0, -1), true);
        x.step();
        due(7, "neither any more", x.giverState(0), 2);
        due(7, "no event", x.events(), 1);
        FlowKernel y = withGiver(3, false);
        y.cancel(0, 5);
        y.pulled(0, 8);
        y.step();
        due(7, "a closed one does not fail", y.giverState(0), 1);
        due(7, "no error", y.error(false, 0), -1);
    }

    private static void read() {
        FlowKernel x = withGiver(0, false);
        due(8, "no giver", x.read(-1), -1);
        due(8, "no giver", x.read(6), -1);
        for (int i = 1; i <= 8; i++) {
            due(8, "read " + i, x.read(0), i);
        }
        due(8, "eight wait", x.read(0), -3);
        due(8, "queue", x.giverQueue(0), 800);
        due(8, "pulls once", x.events(), 1);
        due(8, "and is to pull again", x.giverState(0), 24);
        x.put(0, 77);
        dueEvent(8, x, 1, 6, 0, 1, 77);
        due(8, "number goes on", x.read(0), 9);
        x.giver(0, false);
        due(8, "numbers of another", x.read(1), 1);
        x.fail(0, 4);
        due(8, "failed", x.read(0), 10);
        dueEvent(8, x, x.events() - 1, 8, 0, 10, 4);
        x.end(1);
        due(8, "closed", x.read(1), 2);
        dueEvent(8, x, x.events() - 1, 7, 1, 2);
        FlowKernel y = withParting(0);
        due(8, "parted", y.read(0), -2);
        due(8, "branch", y.read(2), 1);
        FlowKernel z = withPipe(1, 0);
        due(8, "piped", z.read(0), -2);
    }

    private static void readOfQueue() {
        FlowKernel x = withGiver(1, true);
        x.put(0, -3);
        x.put(0, 1);
        x.pulled(0, -1);
        x.step();
        due(8, "room by value", x.giverRoom(0), -5);
        int before = x.events();
        x.read(0);
        dueEvent(8, x, before, 6, 0, 1, -3);
        due(8, "no room: no pull", x.events(), before + 1);
        x.read(0);
        dueEvent(8, x, before + 1, 1, 0);
        dueEvent(8, x, before + 2, 6, 0, 2, 1);
        due(8, "the pull comes before the answer", x.events(), before + 3);
    }

    private static void cancel() {
        FlowKernel x = withGiver(2, false);
        due(9, "no giver", x.cancel(1, 4), false);
        due(9, "error -1", x.cancel(0, -1), false);
        due(9, "error 100", x.cancel(0, 100), false);
        x.put(0, 1);
        x.put(0, 1);
        due(9, "cancelled", x.cancel(0, 99), true);
        due(9, "queue is emptied", x.giverQueue(0), 0);
        due(9, "closed", x.giverState(0), 25);
        dueEvent(9, x, 1, 2, 0, 99);
        due(9, "not open", x.cancel(0, 4), true);
        due(9, "nothing is done", x.events(), 2);
        due(9, "not open, wrong error", x.cancel(0, 100), false);
        FlowKernel y = withGiver(0, false);
        y.read(0);
        y.cancel(0, 3);
        dueEvent(9, y, 1, 7, 0, 1);
        dueEvent(9, y, 2, 2, 0, 3);
        FlowKernel z = withParting(0);
        due(9, "parted", z.cancel(0, 1), false);
        due(9, "branch", z.cancel(1, 1), true);
        FlowKernel p = withPipe(1, 0);
        due(9, "piped", p.cancel(0, 1), false);
        FlowKernel f = withGiver(0, false);
        f.fail(0, 6);
        due(9, "failed", f.cancel(0, 1), true);
        due(9, "stays failed", f.giverState(0), 2);
    }

    private static void write() {
        FlowKernel x = withTaker(3, false);
        due(10, "no taker", x.write(1, 5), -1);
        due(10, "no taker", x.write(-1, 5), -1);
        due(10, "first", x.write(0, -9), 1);
        dueEvent(10, x, 0, 3, 0, -9);
        due(10, "writing", x.takerState(0), 8);
        for (int i = 2; i <= 16; i++) {
            due(10, "write " + i, x.write(0, i), i);
        }
        due(10, "only the first is written", x.events(), 1);
        due(10, "sixteen", x.write(0, 17), -3);
        x.settle(0, -1);
        x.step();
        dueEvent(10, x, 1, 9, 0, 1);
        dueEvent(10, x, 2, 3, 0, 2);
        due(10, "refused ones have no number", x.write(0, 17), 17);
        x.taker(0, false);
        due(10, "numbers of another", x.write(1, 3), 1);
        FlowKernel p = withPipe(1, 0);
        due(10, "piped", p.write(0, 1), -2);
    }

    private static void writeWhenItFails() {
        FlowKernel x = withTaker(0, false);
        x.shut(0);
        due(10, "shutting", x.write(0, 5), 1);
        dueEvent(10, x, 1, 10, 0, 1, 100);
        x.spoil(0, 7);
        x.write(0, 5);
        dueEvent(10, x, 2, 10, 0, 2, 7);
        x.settle(0, -1);
        x.step();
        due(10, "closed", x.write(0, 5), 3);
        dueEvent(10, x, 4, 10, 0, 3, 100);
        FlowKernel y = withTaker(0, false);
        y.write(0, 1);
        y.shut(0);
        due(10, "an end waits", y.write(0, 5), 2);
        dueEvent(10, y, 1, 10, 0, 2, 100);
        y.spoil(0, 8);
        y.write(0, 5);
        dueEvent(10, y, 2, 10, 0, 3, 8);
        FlowKernel z = withTaker(0, false);
        z.spoil(0, 9);
        due(10, "failed", z.write(0, 5), 1);
        dueEvent(10, z, 0, 10, 0, 1, 9);
        due(10, "not in the queue", z.takerQueue(0), 0);
    }

    private static void shut() {
        FlowKernel x = withTaker(1, false);
        due(11, "no taker", x.shut(1), false);
        due(11, "no taker", x.shut(-1), false);
        due(11, "shut", x.shut(0), true);
        dueEvent(11, x, 0, 4, 0);
        due(11, "state", x.takerState(0), 16);
        due(11, "shutting", x.shut(0), false);
        x.settle(0, -1);
        x.step();
        dueEvent(11, x, 1, 11, 0);
        due(11, "closed", x.shut(0), false);
        due(11, "state", x.takerState(0), 3);

        FlowKernel y = withTaker(1, false);
        y.write(0, 1);
        due(11, "behind a write", y.shut(0), true);
        due(11, "an end waits", y.takerState(0), 12);
        due(11, "an end waits already", y.shut(0), false);
        y.settle(0, -1);
        y.step();
        dueEvent(11, y, 1, 9, 0, 1);
        dueEvent(11, y, 2, 4, 0);
        due(11, "state", y.takerState(0), 16);

        FlowKernel z = withTaker(1, false);
        z.write(0, 1);
        z.spoil(0, 5);
        due(11, "failing", z.shut(0), true);
        due(11, "state", z.takerState(0), 13);
        z.settle(0, -1);
        z.step();
        dueEvent(11, z, 1, 9, 0, 1);
        dueEvent(11, z, 2, 12, 0, 5);
        due(11, "failed", z.takerState(0), 2);
        due(11, "failed", z.shut(0), false);
        FlowKernel p = withPipe(1, 0);
        due(11, "piped", p.shut(0), false);
    }

    private static void abort() {
        FlowKernel x = withTaker(1, false);
        due(12, "no taker", x.abort(1, 5), false);
        due(12, "error -1", x.abort(0, -1), false);
        due(12, "error 100", x.abort(0, 100), false);
        due(12, "abort", x.abort(0, 99), true);
        dueEvent(12, x, 0, 5, 0, 99);
        due(12, "aborting", x.takerState(0), 34);
        due(12, "error", x.error(true, 0), 99);
        due(12, "aborting: refused", x.abort(0, 5), false);
        x.settle(0, -1);
        due(12, "job", x.step(), 5);
        dueEvent(12, x, 1, 13, 0);
        due(12, "failed", x.abort(0, 5), true);
        dueEvent(12, x, 2, 13, 0);
        due(12, "nothing else", x.takerState(0), 2);
        due(12, "the error stays", x.error(true, 0), 99);

        FlowKernel y = withTaker(1, false);
        y.write(0, 1);
        y.write(0, 2);
        y.shut(0);
        due(12, "while writing", y.abort(0, 4), true);
        due(12, "pending", y.takerState(0), 77);
        due(12, "pending: refused", y.abort(0, 4), false);
        due(12, "the chunks stay", y.takerQueue(0), 2);
        y.settle(0, -1);
        y.step();
        dueEvent(12, y, 1, 9, 0, 1);
        dueEvent(12, y, 2, 10, 0, 2, 4);
        dueEvent(12, y, 3, 5, 0, 4);
        due(12, "the end waits on", y.takerState(0), 38);
        y.settle(0, 6);
        y.step();
        dueEvent(12, y, 4, 14, 0, 6);
        dueEvent(12, y, 5, 12, 0, 4);
        due(12, "done", y.takerState(0), 2);

        FlowKernel z = withTaker(1, false);
        z.write(0, 1);
        z.spoil(0, 8);
        z.abort(0, 3);
        due(12, "late", z.takerState(0), 73);
        due(12, "the first error stays", z.error(true, 0), 8);
        z.settle(0, -1);
        z.step();
        dueEvent(12, z, 2, 14, 0, 8);
        due(12, "never aborting", z.takerState(0), 2);
        FlowKernel p = withPipe(1, 0);
        due(12, "piped", p.abort(0, 1), false);
    }

    private static void abortWhileShutting() {
        FlowKernel x = withTaker(1, false);
        x.shut(0);
        x.abort(0, 9);
        due(12, "failing and shutting", x.takerState(0), 81);
        x.settle(0, -1);
        due(12, "job", x.step(), 4);
        dueEvent(12, x, 1, 11, 0);
        dueEvent(12, x, 2, 13, 0);
        due(12, "closed", x.takerState(0), 3);
        due(12, "no error", x.error(true, 0), -1);
        due(12, "closed: abort", x.abort(0, 3), true);
        dueEvent(12, x, 3, 13, 0);
        due(12, "still closed", x.takerState(0), 3);

        FlowKernel y = withTaker(1, false);
        y.shut(0);
        y.abort(0, 9);
        y.settle(0, 7);
        y.step();
        dueEvent(12, y, 1, 12, 0, 7);
        dueEvent(12, y, 2, 14, 0, 7);
        due(12, "failed", y.takerState(0), 2);
        due(12, "with the abort's error", y.error(true, 0), 9);
        due(12, "no more events", y.events(), 3);
    }

    private static void spoil() {
        FlowKernel x = withTaker(1, false);
        due(13, "no taker", x.spoil(1, 5), false);
        due(13, "error -1", x.spoil(0, -1), false);
        due(13, "error 100", x.spoil(0, 100), false);
        due(13, "spoilt", x.spoil(0, 0), true);
        due(13, "failed at once", x.takerState(0), 2);
        due(13, "error", x.error(true, 0), 0);
        due(13, "not open", x.spoil(0, 5), false);
        due(13, "no event", x.events(), 0);

        FlowKernel y = withTaker(1, false);
        y.write(0, 1);
        y.write(0, 2);
        y.spoil(0, 99);
        due(13, "failing while it writes", y.takerState(0), 9);
        due(13, "failing: refused", y.spoil(0, 5), false);
        y.settle(0, 3);
        y.step();
        dueEvent(13, y, 1, 10, 0, 1, 3);
        dueEvent(13, y, 2, 10, 0, 2, 99);
        due(13, "failed", y.takerState(0), 2);
        due(13, "with the first error", y.error(true, 0), 99);

        FlowKernel z = withTaker(1, false);
        z.shut(0);
        z.spoil(0, 4);
        due(13, "failing while it shuts", z.takerState(0), 17);
        z.settle(0, -1);
        z.step();
        due(13, "closed all the same", z.takerState(0), 3);
        due(13, "closed", z.spoil(0, 4), false);
        FlowKernel p = withPipe(1, 0);
        due(13, "piped", p.spoil(0, 1), true);
    }

    private static void settle() {
        FlowKernel x = withTaker(1, false);
        due(14, "no taker", x.settle(1, -1), false);
        due(14, "does nothing", x.settle(0, -1), false);
        x.write(0, 5);
        x.write(0, 6);
        due(14, "error -2", x.settle(0, -2), false);
        due(14, "error 100", x.settle(0, 100), false);
        due(14, "writing", x.settle(0, -1), true);
        due(14, "such a job waits", x.settle(0, -1), false);
        due(14, "still writing", x.takerState(0), 8);
        due(14, "job", x.step(), 3);
        dueEvent(14, x, 1, 9, 0, 1);
        dueEvent(14, x, 2, 3, 0, 6);
        due(14, "the next", x.settle(0, -1), true);
        due(14, "job", x.step(), 3);
        due(14, "queue", x.takerQueue(0), 0);
        due(14, "room", x.takerRoom(0), 1);
        due(14, "state", x.takerState(0), 0);
        x.shut(0);
        due(14, "shutting", x.settle(0, -1), true);
        due(14, "such a job waits", x.settle(0, 1), false);
        due(14, "job", x.step(), 4);
        due(14, "closed: nothing", x.settle(0, -1), false);
        x.taker(1, false);
        x.abort(1, 2);
        due(14, "aborting", x.settle(1, 99), true);
        due(14, "such a job waits", x.settle(1, -1), false);
        due(14, "job", x.step(), 5);
        dueEvent(14, x, x.events() - 1, 14, 1, 99);
    }

    private static void settleWithError() {
        FlowKernel x = withTaker(1, false);
        x.write(0, 5);
        x.write(0, 6);
        x.shut(0);
        x.settle(0, 0);
        x.step();
        dueEvent(14, x, 1, 10, 0, 1, 0);
        dueEvent(14, x, 2, 10, 0, 2, 0);
        dueEvent(14, x, 3, 12, 0, 0);
        due(14, "failed", x.takerState(0), 2);
        due(14, "error", x.error(true, 0), 0);
        due(14, "queue", x.takerQueue(0), 0);
        FlowKernel y = withTaker(1, false);
        y.shut(0);
        y.settle(0, 44);
        y.step();
        dueEvent(14, y, 1, 12, 0, 44);
        due(14, "failed", y.takerState(0), 2);
        due(14, "error", y.error(true, 0), 44);
        due(14, "no more", y.events(), 2);
    }

    private static void pipeRefusals() {
        FlowKernel x = new FlowKernel();
        due(15, "nothing there", x.pipe(0, 0, 0), -1);
        x.giver(0, false);
        due(15, "no taker", x.pipe(0, 0, 0), -1);
        x.taker(1, false);
        x.taker(1, false);
        due(15, "no giver", x.pipe(1, 0, 0), -1);
        due(15, "flags -1", x.pipe(0, 0, -1), -1);
        due(15, "flags 8", x.pipe(0, 0, 8), -1);
        x.giver(0, false);
        x.read(0);
        due(15, "requests wait", x.pipe(0, 0, 0), -2);
        due(15, "first", x.pipe(1, 0, 7), 0);
        due(15, "held", x.giverState(1), 32);
        due(15, "held", x.takerState(0), 128);
        x.giver(0, false);
        due(15, "giver held", x.pipe(1, 1, 0), -2);
        due(15, "taker held", x.pipe(2, 0, 0), -2);
        due(15, "held, but wrong flags", x.pipe(2, 0, 8), -1);
        due(15, "second", x.pipe(2, 1, 0), 1);
        x.giver(0, false);
        due(15, "third, held", x.pipe(3, 1, 0), -2);
        x.fail(1, 3);
        x.run();
        due(15, "over, let go", x.takerState(0), 0);
        due(15, "there were two", x.pipe(3, 0, 0), -3);
        FlowKernel y = withParting(0);
        y.taker(1, false);
        due(15, "parted", y.pipe(0, 0, 0), -2);
        due(15, "branch", y.pipe(2, 0, 0), 0);
    }

    private static void pipeEnds() {
        FlowKernel x = withPipe(2, 0);
        x.put(0, 7);
        x.end(0);
        x.run();
        due(15, "idles while a chunk is there", x.takerState(0), 136);
        x.settle(0, -1);
        due(15, "written, then the pump", x.run(), 2);
        dueEvent(15, x, 2, 9, 0, 1);
        dueEvent(15, x, 3, 4, 0);
        dueEvent(15, x, 4, 15, 0);
        due(15, "shut", x.takerState(0), 16);
        due(15, "let go", x.giverState(0) >> 5, 0);
        FlowKernel y = withPipe(2, 1);
        y.end(0);
        y.run();
        due(15, "kept open", y.takerState(0), 0);
        dueEvent(15, y, 1, 15, 0);
        due(15, "it takes more", y.write(0, 1), 1);
        FlowKernel z = withTaker(1, false);
        z.shut(0);
        z.giver(0, false);
        z.end(0);
        z.pipe(0, 0, 0);
        due(15, "closed before shut", z.run(), 1);
        dueEvent(15, z, 1, 15, 0);
        due(15, "shut but once", z.events(), 2);
    }

    private static void pipeOfFailedGiver() {
        FlowKernel x = withPipe(2, 0);
        x.put(0, 7);
        x.fail(0, 30);
        x.run();
        due(15, "an abort is pending", x.takerState(0), 73);
        due(15, "error", x.error(true, 0), 30);
        dueEvent(15, x, 2, 16, 0, 30);
        FlowKernel y = withPipe(2, 2);
        y.fail(0, 30);
        y.run();
        due(15, "spared", y.takerState(0), 0);
        dueEvent(15, y, 1, 16, 0, 30);
        FlowKernel z = withPipe(2, 0);
        z.fail(0, 30);
        z.run();
        dueEvent(15, z, 1, 5, 0, 30);
        dueEvent(15, z, 2, 16, 0, 30);
        FlowKernel both = withPipe(2, 0);
        both.spoil(0, 20);
        both.fail(0, 30);
        both.run();
        dueEvent(15, both, 1, 13, 0);
        dueEvent(15, both, 2, 16, 0, 30);
    }

    private static void pipeToFailedTaker() {
        FlowKernel x = withPipe(2, 0);
        x.spoil(0, 20);
        due(15, "the pump alone", x.run(), 1);
        due(15, "cancelled", x.giverState(0) & 3, 1);
        dueEvent(15, x, 1, 2, 0, 20);
        dueEvent(15, x, 2, 16, 0, 20);
        FlowKernel y = withPipe(2, 4);
        due(15, "its request waits", y.giverQueue(0), 100);
        y.spoil(0, 20);
        y.run();
        due(15, "left", y.giverState(0) & 3, 0);
        due(15, "the request is gone", y.giverQueue(0), 0);
        dueEvent(15, y, 1, 16, 0, 20);
        due(15, "its reads start from 1", y.read(0), 1);
        FlowKernel z = withPipe(2, 0);
        z.put(0, 1);
        z.spoil(0, 20);
        z.end(0);
        z.run();
        due(15, "failing before closed", z.takerState(0), 9);
        dueEvent(15, z, 2, 16, 0, 20);
    }

    private static void pipeToShutTaker() {
        for (int flags = 0; flags <= 4; flags += 4) {
            FlowKernel x = withTaker(3, false);
            x.giver(0, false);
            x.shut(0);
            x.pipe(0, 0, flags);
            due(15, "one pump", x.run(), 1);
            due(15, "cancelled or left", x.giverState(0), flags == 0 ? 1 : 0);
            if (flags == 0) {
                dueEvent(15, x, 1, 2, 0, 100);
            }
            dueEvent(15, x, x.events() - 1, 16, 0, 100);
        }
        FlowKernel waits = withTaker(3, false);
        waits.giver(0, false);
        waits.write(0, 1);
        waits.shut(0);
        waits.pipe(0, 0, 4);
        waits.run();
        dueEvent(15, waits, 1, 16, 0, 100);
        FlowKernel closed = withTaker(3, false);
        closed.giver(0, false);
        closed.shut(0);
        closed.settle(0, -1);
        closed.run();
        closed.pipe(0, 0, 4);
        closed.run();
        dueEvent(15, closed, 2, 16, 0, 100);
    }

    private static void pipeWithRoom() {
        FlowKernel x = withPipe(0, 0);
        due(15, "no room: no request", x.giverQueue(0), 0);
        FlowKernel y = new FlowKernel();
        y.giver(0, false);
        y.taker(1, true);
        y.pipe(0, 0, 0);
        y.run();
        for (int i = 0; i < 16; i++) {
            due(15, "a chunk of size 0", y.put(0, 8 * i), true);
            y.run();
        }
        due(15, "sixteen", y.takerQueue(0), 16);
        due(15, "there is room", y.takerRoom(0), 1);
        due(15, "but no request", y.giverQueue(0), 0);
        y.settle(0, -1);
        due(15, "written, a request, and one pump that idles", y.run(), 3);
        due(15, "asks again", y.giverQueue(0), 100);
    }

    private static void pipeAnsweredTooLate() {
        FlowKernel x = withPipe(1, 0);
        x.spoil(0, 12);
        x.put(0, 3);
        dueEvent(15, x, 1, 10, 0, 1, 12);
        due(15, "the write is lost", x.takerQueue(0), 0);
    }

    private static void pumpsAfterCalls() {
        FlowKernel x = withPipe(1, 0);
        x.taker(1, false);
        due(15, "after taker", x.run(), 1);
        x.giver(0, false);
        due(15, "after giver", x.run(), 1);
        x.read(1);
        due(15, "after read", x.run(), 1);
        x.write(1, 1);
        due(15, "after write", x.run(), 1);
        x.shut(1);
        due(15, "after shut", x.run(), 1);
        x.abort(1, 1);
        due(15, "after abort", x.run(), 1);
        x.settle(1, -1);
        due(15, "after settle: its job and a pump", x.jobs(), 2);
        due(15, "after settle", x.run(), 2);
        x.settle(1, -1);
        x.run();
        x.pulled(1, -1);
        due(15, "after pulled: its job and a pump", x.jobs(), 2);
        due(15, "its job is first", x.step(), 1);
        due(15, "one pump waits, not two", x.jobs(), 1);
        due(15, "an idle pump brings no other", x.step(), 6);
        due(15, "none left", x.jobs(), 0);
        x.put(1, 1);
        due(15, "after put", x.run(), 1);
        x.end(1);
        due(15, "after end", x.run(), 1);
        x.cancel(1, 1);
        due(15, "after a cancel of a closed one", x.run(), 1);
        x.part(1);
        due(15, "after part", x.run(), 1);
        x.giver(0, false);
        x.run();
        x.fail(4, 1);
        due(15, "after fail", x.run(), 1);
        x.put(4, 1);
        x.spoil(1, 1);
        x.read(-1);
        x.giverState(0);
        x.event(0, 0);
        due(15, "none after refused calls and questions", x.jobs(), 0);
        x.pipe(4, 1, 0);
        due(15, "the lesser number first", x.jobs(), 2);
        x.step();
        x.step();
        due(15, "pipe 1 was the second", x.events() > 0 ? x.event(x.events() - 1, 0) : 0, 16 + 32);
    }

    private static void part() {
        FlowKernel x = withGiver(0, false);
        due(16, "no giver", x.part(1), -1);
        due(16, "parted", x.part(0), 1);
        due(16, "held", x.giverState(0), 64);
        due(16, "branches", x.giverState(1), 0);
        due(16, "branches", x.giverState(2), 0);
        due(16, "room", x.giverRoom(2), 0);
        due(16, "again", x.part(0), -2);
        due(16, "a branch", x.part(2), -2);
        x.giver(0, false);
        x.giver(0, false);
        due(16, "too many", x.part(3), -3);
        due(16, "a branch, too many", x.part(1), -2);
        FlowKernel y = withGiver(0, false);
        y.read(0);
        due(16, "requests wait", y.part(0), -2);
        FlowKernel z = withPipe(1, 0);
        due(16, "piped", z.part(0), -2);
        FlowKernel two = withGiver(0, false);
        two.giver(0, false);
        two.part(0);
        due(16, "four givers", two.part(1), 4);
        due(16, "six now", two.giver(0, false), -2);
        FlowKernel queued = withGiver(0, false);
        queued.put(0, 1);
        due(16, "with a queue", queued.part(0), 1);
        due(16, "it stays there", queued.giverQueue(0), 1);
    }

    private static void partOfEndedGiver() {
        FlowKernel x = withGiver(0, false);
        x.end(0);
        x.part(0);
        due(16, "closed: branches end", x.giverState(1), 5);
        due(16, "closed: branches end", x.giverState(2), 5);
        due(16, "held", x.giverState(0), 69);
        FlowKernel y = withGiver(0, false);
        y.fail(0, 13);
        y.part(0);
        due(16, "failed: branches fail", y.giverState(1), 2);
        due(16, "failed: error", y.error(false, 1), 13);
        due(16, "failed: error", y.error(false, 2), 13);
        FlowKernel z = withGiver(0, false);
        z.put(0, 4);
        z.end(0);
        z.part(0);
        due(16, "ending: branches go on", z.giverState(1), 0);
        z.read(1);
        due(16, "drained and closed", z.giverState(0), 69);
        due(16, "branch open still", z.giverState(2), 0);
        due(16, "parted, pulled, then at the end", z.run(), 2);
        dueEvent(16, z, 0, 6, 1, 1, 4);
        due(16, "the other has it", z.giverQueue(2), 1);
        z.read(1);
        dueEvent(16, z, 1, 7, 1, 2);
        due(16, "closed", z.giverState(1), 13);
        due(16, "ending, for its queue", z.giverState(2), 4);
        due(16, "the pulled job of a closed branch", z.step(), 1);
        due(16, "not pulling", z.giverState(1), 5);
        z.read(2);
        dueEvent(16, z, 2, 6, 2, 1, 4);
        due(16, "closed", z.giverState(2), 5);
    }

    private static void partingReads() {
        FlowKernel x = withParting(0);
        x.read(1);
        dueEvent(16, x, 0, 1, 0);
        due(16, "a request at the root", x.giverQueue(0), 100);
        x.read(2);
        due(16, "but one", x.giverQueue(0), 100);
        due(16, "two branches pulled", x.jobs(), 2);
        x.put(0, 5);
        due(16, "and the chunk", x.jobs(), 3);
        due(16, "nobody asks the root", x.giverQueue(0), 0);
        due(16, "job", x.step(), 1);
        due(16, "job", x.step(), 1);
        x.read(1);
        due(16, "asks again later", x.giverQueue(0), 0);
        due(16, "parted", x.step(), 2);
        dueEvent(16, x, 1, 6, 1, 1, 5);
        dueEvent(16, x, 2, 6, 2, 1, 5);
        due(16, "since then branch 1 is to pull again", x.giverState(1), 24);
        due(16, "but did not pull", x.giverQueue(0), 0);
        due(16, "its pulled job", x.step(), 1);
        due(16, "now it asks", x.giverQueue(0), 100);
        x.put(0, 6);
        x.run();
        dueEvent(16, x, x.events() - 1, 6, 1, 2, 6);
        due(16, "the other keeps it", x.giverQueue(2), 1);

        FlowKernel y = withGiver(0, false);
        y.put(0, 1);
        y.put(0, 2);
        y.part(0);
        y.read(1);
        y.read(1);
        due(16, "the chunk waits before the pulled job", y.step(), 2);
        due(16, "then the pulled job", y.step(), 1);
        due(16, "asked for the second", y.giverQueue(0), 0);
        due(16, "which waits", y.step(), 2);
        dueEvent(16, y, 1, 6, 1, 2, 2);
        due(16, "both in the other", y.giverQueue(2), 2);
    }

    private static void partingReadsAgain() {
        for (int ended = 0; ended <= 1; ended++) {
            FlowKernel x = withParting(0);
            x.read(1);
            x.read(1);
            due(16, "two pulls of the branch", x.run(), 2);
            due(16, "one request at the root", x.giverQueue(0), 100);
            x.put(0, 5);
            if (ended == 1) {
                x.end(0);
            }
            due(16, "parted", x.step(), 2);
            dueEvent(16, x, 1, 6, 1, 1, 5);
            due(16, "the branch pulls", x.giverState(1), ended == 1 ? 13 : 8);
            due(16, "its job waits", x.jobs(), 1);
            due(16, "a request at the root", x.giverQueue(0), ended == 1 ? 0 : 100);
            due(16, "the other has one chunk", x.giverRoom(2), -1);
            if (ended == 1) {
                dueEvent(16, x, 2, 7, 1, 2);
                due(16, "the other ends", x.giverState(2), 4);
            }
        }
        FlowKernel y = withParting(0);
        y.read(2);
        y.put(0, 5);
        y.run();
        due(16, "the first branch goes by count, too", y.giverRoom(1), -1);
        dueEvent(16, y, 1, 6, 2, 1, 5);
    }

    private static void partingFull() {
        FlowKernel x = withParting(0);
        for (int i = 1; i <= 16; i++) {
            x.read(1);
            x.put(0, i);
            x.run();
        }
        due(16, "sixteen", x.giverQueue(2), 16);
        due(16, "room by count", x.giverRoom(2), -16);
        x.read(1);
        x.put(0, 17);
        x.run();
        due(16, "full", x.error(false, 2), 101);
        due(16, "failed", x.giverState(2), 2);
        due(16, "emptied", x.giverQueue(2), 0);
        dueEvent(16, x, x.events() - 1, 6, 1, 17, 17);
        x.cancel(1, 3);
        due(16, "a failed branch is not given up", x.giverState(0) & 3, 0);
        x.cancel(2, 3);
        due(16, "nor can it be", x.giverState(0) & 3, 0);
    }

    private static void partingEnds() {
        FlowKernel x = withParting(0);
        x.read(2);
        x.read(1);
        x.end(0);
        dueEvent(16, x, 1, 7, 1, 1);
        dueEvent(16, x, 2, 7, 2, 1);
        due(16, "closed", x.giverState(1), 13);
        due(16, "closed", x.giverState(2), 13);
        FlowKernel y = withParting(0);
        y.end(0);
        due(16, "not reading: not told yet", y.giverState(1), 0);
        y.read(2);
        due(16, "told by the next read", y.giverState(1), 5);
        dueEvent(16, y, 0, 7, 2, 1);
        due(16, "its pulled job waits all the same", y.jobs(), 1);
        FlowKernel z = withParting(0);
        z.read(1);
        z.put(0, 1);
        z.read(1);
        z.read(2);
        z.end(0);
        due(16, "the chunk is still to come", z.giverState(1) & 3, 0);
        z.run();
        dueEvent(16, z, 1, 6, 1, 1, 1);
        dueEvent(16, z, 2, 6, 2, 1, 1);
        dueEvent(16, z, 3, 7, 1, 2);
        due(16, "no more", z.events(), 4);
    }

    private static void partingCancelled() {
        FlowKernel x = withParting(0);
        x.put(0, 1);
        x.put(0, 1);
        x.cancel(2, 5);
        due(16, "one is not enough", x.giverState(0), 64);
        x.cancel(2, 6);
        due(16, "twice the same is not enough", x.giverState(0), 64);
        x.cancel(1, 7);
        due(16, "both", x.giverState(0), 65);
        due(16, "emptied", x.giverQueue(0), 0);
        due(16, "one event", x.events(), 1);
        dueEvent(16, x, 0, 2, 0, 7);
        FlowKernel y = withParting(0);
        y.read(1);
        y.cancel(1, 5);
        y.put(0, 4);
        y.run();
        due(16, "a given up branch takes nothing", y.giverQueue(1), 0);
        due(16, "the other does", y.giverQueue(2), 1);
        FlowKernel z = withParting(0);
        z.taker(1, false);
        z.pipe(1, 0, 0);
        z.cancel(2, 9);
        z.spoil(0, 31);
        z.run();
        due(16, "cancelled through a pipe", z.giverState(0) & 3, 1);
        dueEvent(16, z, z.events() - 2, 2, 0, 31);
        dueEvent(16, z, z.events() - 1, 16, 0, 31);
        FlowKernel ended = withParting(0);
        ended.end(0);
        ended.cancel(1, 1);
        ended.cancel(2, 2);
        due(16, "a closed root is not cancelled", ended.events(), 0);
    }

    private static void step() {
        FlowKernel x = withGiver(1, false);
        due(17, "none", x.step(), 0);
        x.taker(1, false);
        x.write(0, 1);
        x.settle(0, -1);
        x.pulled(0, -1);
        due(17, "the first", x.step(), 3);
        due(17, "the second", x.step(), 1);
        due(17, "none", x.step(), 0);
        x.shut(0);
        x.settle(0, -1);
        due(17, "shut", x.step(), 4);
        x.taker(1, false);
        x.abort(1, 1);
        x.settle(1, -1);
        due(17, "aborted", x.step(), 5);
        x.pipe(0, 1, 0);
        due(17, "pump", x.step(), 6);
        FlowKernel y = withParting(0);
        y.put(0, 1);
        y.read(1);
        due(17, "parted", y.step(), 2);
    }

    private static void run() {
        FlowKernel x = withGiver(1, false);
        due(18, "none", x.run(), 0);
        x.pulled(0, -1);
        due(18, "one", x.run(), 1);
        FlowKernel y = withPipe(20, 0);
        due(18, "none left", y.jobs(), 0);
        for (int i = 0; i < 16; i++) {
            y.put(0, i);
        }
        due(18, "one each, and one that idles", y.run(), 16);
        due(18, "all there", y.takerQueue(0), 16);
        due(18, "none left", y.run(), 0);
    }

    private static void jobs() {
        FlowKernel x = withGiver(1, false);
        x.giver(1, false);
        due(19, "none", x.jobs(), 0);
        x.pulled(0, -1);
        due(19, "one", x.jobs(), 1);
        x.pulled(1, -1);
        due(19, "two", x.jobs(), 2);
        x.taker(1, false);
        x.write(0, 1);
        x.settle(0, -1);
        due(19, "three", x.jobs(), 3);
        x.step();
        due(19, "two again", x.jobs(), 2);
        x.run();
        due(19, "none again", x.jobs(), 0);
    }

    private static void giverState() {
        FlowKernel x = withGiver(0, false);
        due(20, "no giver", x.giverState(-1), -1);
        due(20, "no giver", x.giverState(1), -1);
        due(20, "open", x.giverState(0), 0);
        x.read(0);
        due(20, "pulling", x.giverState(0), 8);
        x.read(0);
        due(20, "to pull again", x.giverState(0), 24);
        x.put(0, 1);
        x.put(0, 1);
        x.put(0, 1);
        x.end(0);
        due(20, "ending", x.giverState(0), 28);
        x.taker(0, false);
        x.pipe(0, 0, 0);
        due(20, "held by a pipe", x.giverState(0), 60);
        x.fail(0, 1);
        due(20, "failed", x.giverState(0), 62);
        due(20, "held by a parting", withParting(1).giverState(0), 72);
    }

    private static void giverRoom() {
        FlowKernel x = withGiver(5, true);
        due(21, "no giver", x.giverRoom(-1), -1000);
        due(21, "no giver", x.giverRoom(1), -1000);
        due(21, "all", x.giverRoom(0), 5);
        x.put(0, 8 + 3);
        due(21, "by value", x.giverRoom(0), 2);
        x.put(0, -1);
        due(21, "below 0", x.giverRoom(0), -5);
        x.put(0, 16);
        due(21, "size 0", x.giverRoom(0), -5);
        x.read(0);
        due(21, "after a read", x.giverRoom(0), -2);
        x.end(0);
        due(21, "ending, still open", x.giverRoom(0), -2);
        x.fail(0, 0);
        due(21, "not open", x.giverRoom(0), 0);
        FlowKernel y = withGiver(3, false);
        y.put(0, 7);
        due(21, "by count", y.giverRoom(0), 2);
        y.cancel(0, 1);
        due(21, "closed", y.giverRoom(0), 0);
    }

    private static void giverQueue() {
        FlowKernel x = withGiver(1, false);
        due(22, "no giver", x.giverQueue(-1), -1);
        due(22, "no giver", x.giverQueue(1), -1);
        due(22, "none", x.giverQueue(0), 0);
        x.put(0, 1);
        x.put(0, 1);
        due(22, "two", x.giverQueue(0), 2);
        x.read(0);
        x.read(0);
        x.read(0);
        x.read(0);
        due(22, "two requests", x.giverQueue(0), 200);
        due(22, "a pipe's request", withPipe(1, 0).giverQueue(0), 100);
    }

    private static void takerState() {
        FlowKernel x = withTaker(1, false);
        due(23, "no taker", x.takerState(-1), -1);
        due(23, "no taker", x.takerState(1), -1);
        due(23, "open", x.takerState(0), 0);
        x.write(0, 1);
        due(23, "writing", x.takerState(0), 8);
        x.shut(0);
        due(23, "an end waits", x.takerState(0), 12);
        x.abort(0, 1);
        due(23, "an abort is pending", x.takerState(0), 77);
        x.giver(1, false);
        x.pipe(0, 0, 0);
        due(23, "held", x.takerState(0), 205);
        x.settle(0, -1);
        x.run();
        due(23, "aborting", x.takerState(0), 38);
        x.taker(1, false);
        x.shut(1);
        due(23, "shutting", x.takerState(1), 16);
        x.settle(1, -1);
        x.run();
        due(23, "closed", x.takerState(1), 3);
    }

    private static void takerRoom() {
        FlowKernel x = withTaker(5, true);
        due(24, "no taker", x.takerRoom(-1), -1000);
        due(24, "no taker", x.takerRoom(1), -1000);
        due(24, "all", x.takerRoom(0), 5);
        x.write(0, 8 + 3);
        due(24, "by value", x.takerRoom(0), 2);
        x.write(0, -1);
        due(24, "below 0", x.takerRoom(0), -5);
        x.settle(0, -1);
        x.run();
        due(24, "one written", x.takerRoom(0), -2);
        x.spoil(0, 1);
        due(24, "failing", x.takerRoom(0), 0);
        x.taker(4, false);
        x.write(1, 7);
        due(24, "by count", x.takerRoom(1), 3);
    }

    private static void takerQueue() {
        FlowKernel x = withTaker(5, true);
        due(25, "no taker", x.takerQueue(-1), -1);
        due(25, "no taker", x.takerQueue(1), -1);
        due(25, "none", x.takerQueue(0), 0);
        x.write(0, 1);
        x.write(0, 1);
        due(25, "the one that is being written, too", x.takerQueue(0), 2);
        x.settle(0, -1);
        due(25, "until it is written", x.takerQueue(0), 2);
        x.run();
        due(25, "one", x.takerQueue(0), 1);
    }

    private static void error() {
        FlowKernel x = withGiver(0, false);
        x.giver(0, false);
        x.taker(1, false);
        x.taker(1, false);
        due(26, "no giver", x.error(false, -1), -1);
        due(26, "no giver", x.error(false, 2), -1);
        due(26, "no taker", x.error(true, -1), -1);
        due(26, "no taker", x.error(true, 2), -1);
        due(26, "open giver", x.error(false, 0), -1);
        due(26, "open taker", x.error(true, 0), -1);
        x.fail(0, 4);
        due(26, "failed giver", x.error(false, 0), 4);
        x.cancel(1, 5);
        due(26, "closed giver", x.error(false, 1), -1);
        x.write(0, 1);
        x.spoil(0, 6);
        due(26, "failing taker", x.error(true, 0), 6);
        x.settle(0, 7);
        x.run();
        due(26, "failed taker", x.error(true, 0), 6);
        x.shut(1);
        x.abort(1, 8);
        due(26, "failing taker", x.error(true, 1), 8);
        x.settle(1, -1);
        x.run();
        due(26, "closed taker", x.error(true, 1), -1);
    }

    private static void events() {
        FlowKernel x = withGiver(0, false);
        due(27, "none", x.events(), 0);
        x.end(0);
        for (int i = 1; i <= 300; i++) {
            x.read(0);
            due(27, "one each", x.events(), i);
        }
    }

    private static void event() {
        FlowKernel x = withGiver(0, false);
        x.giver(0, false);
        x.fail(1, 17);
        for (int i = 0; i < 64; i++) {
            x.read(1);
        }
        due(28, "the oldest of 64", x.event(0, 0), 8 + 32);
        due(28, "the oldest of 64", x.event(0, 1), 1);
        due(28, "the oldest of 64", x.event(0, 2), 17);
        due(28, "the newest", x.event(63, 1), 64);
        due(28, "none yet", x.event(64, 0), 0);
        due(28, "none", x.event(-1, 0), 0);
        due(28, "none", x.event(Integer.MIN_VALUE, 1), 0);
        due(28, "none", x.event(Integer.MAX_VALUE, 1), 0);
        due(28, "what -1", x.event(5, -1), 0);
        due(28, "what 3", x.event(5, 3), 0);
        x.read(1);
        due(28, "not of the latest any more", x.event(0, 0), 0);
        due(28, "not of the latest any more", x.event(0, 1), 0);
        due(28, "the oldest now", x.event(1, 1), 2);
        due(28, "the newest now", x.event(64, 1), 65);
    }

    private static void refusedChangesNothing() {
        FlowKernel x = withPipe(1, 0);
        int giver = x.giverState(0);
        int taker = x.takerState(0);
        x.giver(21, true);
        x.taker(-1, true);
        x.put(5, 1);
        x.end(5);
        x.fail(0, 100);
        x.pulled(0, -2);
        x.read(0);
        x.cancel(0, 1);
        x.write(0, 1);
        x.shut(0);
        x.abort(0, 1);
        x.spoil(0, -1);
        x.settle(0, -1);
        x.pipe(0, 0, 0);
        x.part(0);
        due(0, "giver", x.giverState(0), giver);
        due(0, "taker", x.takerState(0), taker);
        due(0, "no job", x.jobs(), 0);
        due(0, "no event", x.events(), 1);
        due(0, "no giver", x.giverState(1), -1);
        due(0, "no taker", x.takerState(1), -1);
        x.fail(0, 1);
        x.run();
        due(0, "no number was used up by read", x.read(0), 1);
        due(0, "nor by write", x.write(0, 1), 1);
    }
}
