/** Givers, takers, pipes and partings of chunk streams, moved on by jobs that wait in one row. */
public final class FlowKernel {
    private static final int MAX_GIVERS = 6;
    private static final int MAX_TAKERS = 2;
    private static final int MAX_PIPES = 2;
    private static final int MAX_MARK = 20;
    private static final int MAX_ERROR = 99;
    private static final int MAX_FLAGS = 7;
    private static final int MAX_QUEUE = 16;
    private static final int MAX_REQUESTS = 8;
    private static final int MAX_JOBS = 16;
    private static final int MAX_RUN = 200;
    private static final int EVENTS_KEPT = 64;
    /** A mask, for it gives a place in the rings for every int. */
    private static final int EVENT_PLACES = EVENTS_KEPT - 1;
    private static final int EVENT_KINDS = 32;

    private static final int NO_ERROR = -1;
    private static final int CLOSING = 100;
    private static final int FULL = 101;
    private static final int NO_ROOM = -1000;

    private static final int GIVER_OPEN = 0;
    private static final int GIVER_CLOSED = 1;
    private static final int GIVER_FAILED = 2;

    private static final int TAKER_OPEN = 0;
    private static final int TAKER_FAILING = 1;
    private static final int TAKER_FAILED = 2;
    private static final int TAKER_CLOSED = 3;

    private static final int BY_NOBODY = 0;
    private static final int BY_PIPE = 1;
    private static final int BY_PARTING = 2;

    private static final int JOB_NONE = 0;
    private static final int JOB_PULLED = 1;
    private static final int JOB_PARTED = 2;
    private static final int JOB_WRITTEN = 3;
    private static final int JOB_SHUT = 4;
    private static final int JOB_ABORTED = 5;
    private static final int JOB_PUMP = 6;

    private static final int PULLS = 1;
    private static final int IS_CANCELLED = 2;
    private static final int STARTS_WRITE = 3;
    private static final int STARTS_SHUT = 4;
    private static final int STARTS_ABORT = 5;
    private static final int READ_CHUNK = 6;
    private static final int READ_DONE = 7;
    private static final int READ_FAILED = 8;
    private static final int WRITE_DONE = 9;
    private static final int WRITE_FAILED = 10;
    private static final int SHUT_DONE = 11;
    private static final int SHUT_FAILED = 12;
    private static final int ABORT_DONE = 13;
    private static final int ABORT_FAILED = 14;
    private static final int PIPE_DONE = 15;
    private static final int PIPE_FAILED = 16;

    /** Reads are numbered from 1, so this stands for the one request of the pipe or parting that holds a giver. */
    private static final int HOLDERS_REQUEST = 0;

    private final EventLog log;
    private final JobRow waiting;
    private final Giver[] givers;
    private final Taker[] takers;
    private final Pipe[] pipes;
    private int giverCount;
    private int takerCount;
    private int pipeCount;

    public FlowKernel() {
        log = new EventLog();
        waiting = new JobRow();
        givers = new Giver[MAX_GIVERS];
        takers = new Taker[MAX_TAKERS];
        pipes = new Pipe[MAX_PIPES];
    }

    public int giver(int mark, boolean byValue) {
        if (!isMark(mark)) {
            return -1;
        }
        if (giverCount >= MAX_GIVERS) {
            return -2;
        }
        Giver made = addGiver(mark, byValue);
        pullIfNeeded(made);
        awaitPumps();
        return made.number;
    }

    public int taker(int mark, boolean byValue) {
        if (!isMark(mark)) {
            return -1;
        }
        if (takerCount >= MAX_TAKERS) {
            return -2;
        }
        Taker made = new Taker(takerCount, new ChunkRow(mark, byValue), log);
        takers[takerCount] = made;
        takerCount++;
        awaitPumps();
        return made.number;
    }

    public boolean put(int r, int chunk) {
        Giver root = rootAt(r);
        if (root == null || !root.isGoing()) {
            return false;
        }
        if (root.queue.count() >= MAX_QUEUE && root.requests.count == 0) {
            return false;
        }
        takeIn(root, chunk);
        awaitPumps();
        return true;
    }

    public boolean end(int r) {
        Giver root = rootAt(r);
        if (root == null || !root.isGoing()) {
            return false;
        }
        root.ending = true;
        if (root.queue.count() == 0) {
            closeGiver(root);
        }
        awaitPumps();
        return true;
    }

    public boolean fail(int r, int error) {
        Giver root = rootAt(r);
        if (root == null || root.state != GIVER_OPEN || !isError(error)) {
            return false;
        }
        failGiver(root, error);
        awaitPumps();
        return true;
    }

    public boolean pulled(int r, int error) {
        Giver root = rootAt(r);
        if (root == null || !root.pulling || waiting.holds(JOB_PULLED, r)) {
            return false;
        }
        if (!isErrorOrNone(error)) {
            return false;
        }
        waiting.add(JOB_PULLED, r, error);
        awaitPumps();
        return true;
    }

    public int read(int r) {
        Giver giver = giverAt(r);
        if (giver == null) {
            return -1;
        }
        if (giver.heldBy() != BY_NOBODY) {
            return -2;
        }
        if (giver.requests.count >= MAX_REQUESTS) {
            return -3;
        }
        giver.reads++;
        int number = giver.reads;
        request(giver, number);
        awaitPumps();
        return number;
    }

    public boolean cancel(int r, int error) {
        Giver giver = giverAt(r);
        if (giver == null || giver.heldBy() != BY_NOBODY || !isError(error)) {
            return false;
        }
        cancelGiver(giver, error);
        awaitPumps();
        return true;
    }

    public int write(int w, int chunk) {
        Taker taker = takerAt(w);
        if (taker == null) {
            return -1;
        }
        if (taker.held) {
            return -2;
        }
        if (taker.queue.count() >= MAX_QUEUE) {
            return -3;
        }
        int number = taker.accept(chunk);
        awaitPumps();
        return number;
    }

    public boolean shut(int w) {
        Taker taker = takerAt(w);
        if (taker == null || taker.held || !taker.canShutDown()) {
            return false;
        }
        taker.shutDown();
        awaitPumps();
        return true;
    }

    public boolean abort(int w, int error) {
        Taker taker = takerAt(w);
        if (taker == null || taker.held || !isError(error)) {
            return false;
        }
        if (taker.abortPending || taker.doing == JOB_ABORTED) {
            return false;
        }
        taker.abortWith(error);
        awaitPumps();
        return true;
    }

    public boolean spoil(int w, int error) {
        Taker taker = takerAt(w);
        if (taker == null || taker.state != TAKER_OPEN || !isError(error)) {
            return false;
        }
        taker.startFailing(error);
        awaitPumps();
        return true;
    }

    public boolean settle(int w, int error) {
        Taker taker = takerAt(w);
        if (taker == null || taker.doing == JOB_NONE || !isErrorOrNone(error)) {
            return false;
        }
        if (waiting.holds(taker.doing, w)) {
            return false;
        }
        waiting.add(taker.doing, w, error);
        awaitPumps();
        return true;
    }

    public int pipe(int r, int w, int flags) {
        Giver giver = giverAt(r);
        Taker taker = takerAt(w);
        if (giver == null || taker == null || flags < 0 || flags > MAX_FLAGS) {
            return -1;
        }
        if (giver.heldBy() != BY_NOBODY || taker.held || giver.requests.count > 0) {
            return -2;
        }
        if (pipeCount >= MAX_PIPES) {
            return -3;
        }
        Pipe made = new Pipe(pipeCount, giver, taker, flags);
        pipes[pipeCount] = made;
        pipeCount++;
        giver.pipe = made;
        taker.held = true;
        awaitPumps();
        return made.number;
    }

    public int part(int r) {
        Giver giver = giverAt(r);
        if (giver == null) {
            return -1;
        }
        if (giver.heldBy() != BY_NOBODY || giver.origin != null || giver.requests.count > 0) {
            return -2;
        }
        if (giverCount > MAX_GIVERS - 2) {
            return -3;
        }
        Giver first = addGiver(0, false);
        Giver second = addGiver(0, false);
        Parting made = new Parting(giver, first, second);
        giver.parting = made;
        first.origin = made;
        second.origin = made;
        if (giver.state == GIVER_CLOSED) {
            endBranches(made);
        } else if (giver.state == GIVER_FAILED) {
            failBranches(made, giver.error);
        }
        awaitPumps();
        return first.number;
    }

    public int step() {
        return waiting.count() == 0 ? 0 : doFirstJob();
    }

    public int run() {
        int done = 0;
        while (done < MAX_RUN && waiting.count() > 0) {
            doFirstJob();
            done++;
        }
        return done;
    }

    public int jobs() {
        return waiting.count();
    }

    public int giverState(int r) {
        Giver giver = giverAt(r);
        if (giver == null) {
            return -1;
        }
        int told = giver.state + 32 * giver.heldBy();
        told += giver.ending ? 4 : 0;
        told += giver.pulling ? 8 : 0;
        told += giver.again ? 16 : 0;
        return told;
    }

    public int giverRoom(int r) {
        Giver giver = giverAt(r);
        if (giver == null) {
            return NO_ROOM;
        }
        return giver.state == GIVER_OPEN ? giver.queue.room : 0;
    }

    public int giverQueue(int r) {
        Giver giver = giverAt(r);
        return giver == null ? -1 : giver.queue.count() + 100 * giver.requests.count;
    }

    public int takerState(int w) {
        Taker taker = takerAt(w);
        if (taker == null) {
            return -1;
        }
        int told = taker.state;
        told += taker.endWaits ? 4 : 0;
        told += taker.doing == JOB_WRITTEN ? 8 : 0;
        told += taker.doing == JOB_SHUT ? 16 : 0;
        told += taker.doing == JOB_ABORTED ? 32 : 0;
        told += taker.abortPending ? 64 : 0;
        told += taker.held ? 128 : 0;
        return told;
    }

    public int takerRoom(int w) {
        Taker taker = takerAt(w);
        if (taker == null) {
            return NO_ROOM;
        }
        return taker.state == TAKER_OPEN ? taker.queue.room : 0;
    }

    public int takerQueue(int w) {
        Taker taker = takerAt(w);
        return taker == null ? -1 : taker.queue.count();
    }

    public int error(boolean isTaker, int stream) {
        return isTaker ? takerError(takerAt(stream)) : giverError(giverAt(stream));
    }

    public int events() {
        return log.count;
    }

    public int event(int i, int what) {
        return log.tell(i, what);
    }

    private static boolean isMark(int mark) {
        return mark >= 0 && mark <= MAX_MARK;
    }

    private static boolean isError(int error) {
        return error >= 0 && error <= MAX_ERROR;
    }

    private static boolean isErrorOrNone(int error) {
        return error == NO_ERROR || isError(error);
    }

    private static int giverError(Giver giver) {
        return giver != null && giver.state == GIVER_FAILED ? giver.error : NO_ERROR;
    }

    private static int takerError(Taker taker) {
        return taker != null && taker.hasError() ? taker.error : NO_ERROR;
    }

    private Giver giverAt(int r) {
        return r >= 0 && r < giverCount ? givers[r] : null;
    }

    private Giver rootAt(int r) {
        Giver giver = giverAt(r);
        return giver != null && giver.origin == null ? giver : null;
    }

    private Taker takerAt(int w) {
        return w >= 0 && w < takerCount ? takers[w] : null;
    }

    private Pipe pipeAt(int number) {
        return number >= 0 && number < pipeCount ? pipes[number] : null;
    }

    /** For callers that have looked whether there is a place left. */
    private Giver addGiver(int mark, boolean byValue) {
        Giver made = new Giver(giverCount, new ChunkRow(mark, byValue), log);
        givers[giverCount] = made;
        giverCount++;
        return made;
    }

    private void takeIn(Giver giver, int chunk) {
        if (giver.requests.count > 0) {
            answerChunk(giver, giver.requests.takeFirst(), chunk);
        } else {
            giver.queue.add(chunk);
        }
        pullIfNeeded(giver);
    }

    private void answerChunk(Giver giver, int number, int chunk) {
        if (number != HOLDERS_REQUEST) {
            log.note(READ_CHUNK, giver.number, number, chunk);
        } else if (giver.parting != null) {
            waiting.add(JOB_PARTED, giver.number, chunk);
        } else if (giver.pipe != null) {
            giver.pipe.taker.accept(chunk);
        }
    }

    /** A request of a read or a pipe; a parting asks by askRoot, so that no call ever comes back to itself. */
    private void request(Giver giver, int number) {
        if (giver.queue.count() > 0) {
            int chunk = giver.queue.takeFirst();
            giver.closeIfDrained();
            pullIfNeeded(giver);
            answerChunk(giver, number, chunk);
            return;
        }
        giver.requests.add(number);
        if (giver.state == GIVER_OPEN) {
            pullIfNeeded(giver);
        } else {
            giver.answerAll();
        }
    }

    private void pullIfNeeded(Giver giver) {
        if (!giver.startsPulling()) {
            return;
        }
        Parting parting = giver.origin;
        if (parting == null) {
            log.note(PULLS, giver.number, 0, 0);
            return;
        }
        if (parting.reading) {
            parting.again = true;
        } else if (!askRoot(parting)) {
            endBranches(parting);
        }
        waiting.add(JOB_PULLED, giver.number, NO_ERROR);
    }

    /** The parting's request at its giver; false when the answer is DONE, which the caller then tells the branches. */
    private boolean askRoot(Parting parting) {
        Giver root = parting.root;
        parting.reading = root.state == GIVER_OPEN;
        if (!parting.reading) {
            return root.state == GIVER_FAILED;
        }
        boolean answered = root.queue.count() > 0;
        int chunk = 0;
        if (answered) {
            chunk = root.queue.takeFirst();
            root.closeIfDrained();
        } else {
            root.requests.add(HOLDERS_REQUEST);
        }
        if (root.startsPulling()) {
            log.note(PULLS, root.number, 0, 0);
        }
        if (answered) {
            waiting.add(JOB_PARTED, root.number, chunk);
        }
        return true;
    }

    private void endBranches(Parting parting) {
        parting.reading = false;
        for (Giver branch : parting.branches) {
            if (branch.isGoing()) {
                branch.ending = true;
                if (branch.queue.count() == 0) {
                    branch.state = GIVER_CLOSED;
                    branch.answerAll();
                }
            }
        }
    }

    private void failBranches(Parting parting, int error) {
        for (Giver branch : parting.branches) {
            branch.failWith(error);
        }
    }

    private void closeGiver(Giver giver) {
        boolean partingAsked = giver.parting != null && giver.requests.count > 0;
        giver.state = GIVER_CLOSED;
        giver.answerAll();
        if (partingAsked) {
            endBranches(giver.parting);
        }
    }

    private void failGiver(Giver giver, int error) {
        if (giver.state != GIVER_OPEN) {
            return;
        }
        Parting parting = giver.parting;
        if (parting != null && giver.requests.count > 0) {
            parting.reading = false;
        }
        giver.failWith(error);
        if (parting != null) {
            failBranches(parting, error);
        }
    }

    private void cancelGiver(Giver giver, int error) {
        if (giver.state != GIVER_OPEN) {
            return;
        }
        giver.queue.clear();
        closeGiver(giver);
        Parting parting = giver.origin;
        if (parting == null) {
            log.note(IS_CANCELLED, giver.number, error, 0);
            return;
        }
        giver.givenUp = true;
        Giver root = parting.root;
        if (parting.isGivenUp() && root.state == GIVER_OPEN) {
            root.queue.clear();
            closeGiver(root);
            log.note(IS_CANCELLED, root.number, error, 0);
        }
    }

    private void awaitPumps() {
        for (int i = 0; i < pipeCount; i++) {
            Pipe pipe = pipeAt(i);
            if (pipe != null && !pipe.over && !waiting.holds(JOB_PUMP, i)) {
                waiting.add(JOB_PUMP, i, 0);
            }
        }
    }

    private int doFirstJob() {
        int kind = waiting.kinds.takeFirst();
        int number = waiting.numbers.takeFirst();
        int value = waiting.values.takeFirst();
        boolean moved = true;
        if (kind == JOB_PULLED) {
            doPulled(giverAt(number), value);
        } else if (kind == JOB_PARTED) {
            doParted(giverAt(number), value);
        } else if (kind == JOB_PUMP) {
            moved = doPump(pipeAt(number));
        } else {
            doSettled(takerAt(number), kind, value);
        }
        if (moved) {
            awaitPumps();
        }
        return kind;
    }

    private void doPulled(Giver giver, int error) {
        if (giver == null) {
            return;
        }
        giver.pulling = false;
        if (error != NO_ERROR) {
            failGiver(giver, error);
        } else if (giver.again) {
            giver.again = false;
            pullIfNeeded(giver);
        }
    }

    private void doParted(Giver root, int chunk) {
        if (root == null || root.parting == null) {
            return;
        }
        Parting parting = root.parting;
        parting.again = false;
        for (Giver branch : parting.branches) {
            if (!branch.isGoing() || branch.givenUp) {
                continue;
            }
            if (branch.queue.count() >= MAX_QUEUE) {
                branch.failWith(FULL);
            } else {
                takeIn(branch, chunk);
            }
        }
        parting.reading = false;
        if (parting.again && !askRoot(parting)) {
            endBranches(parting);
        }
    }

    private void doSettled(Taker taker, int kind, int error) {
        if (taker == null) {
            return;
        }
        taker.doing = JOB_NONE;
        if (kind == JOB_WRITTEN) {
            taker.written(error);
        } else if (kind == JOB_SHUT) {
            taker.wasShut(error);
        } else {
            taker.wasAborted(error);
        }
    }

    /** False when the pipe is over or idles: then nothing has changed that a pump could wait for. */
    private boolean doPump(Pipe pipe) {
        if (pipe == null || pipe.over) {
            return false;
        }
        Giver giver = pipe.giver;
        Taker taker = pipe.taker;
        if (giver.state == GIVER_FAILED) {
            if (!pipe.spares) {
                taker.abortWith(giver.error);
            }
            endPipe(pipe, PIPE_FAILED, giver.error);
        } else if (taker.hasError()) {
            if (!pipe.leaves) {
                cancelGiver(giver, taker.error);
            }
            endPipe(pipe, PIPE_FAILED, taker.error);
        } else if (giver.state == GIVER_CLOSED) {
            if (taker.queue.count() > 0) {
                return false;
            }
            if (!pipe.keeps) {
                taker.shutDown();
            }
            endPipe(pipe, PIPE_DONE, 0);
        } else if (taker.isShutOrToBe()) {
            if (!pipe.leaves) {
                cancelGiver(giver, CLOSING);
            }
            endPipe(pipe, PIPE_FAILED, CLOSING);
        } else if (pipe.mustWait()) {
            return false;
        } else {
            request(giver, HOLDERS_REQUEST);
        }
        return true;
    }

    private void endPipe(Pipe pipe, int kind, int error) {
        pipe.letGo();
        log.note(kind, pipe.number, error, 0);
    }

    /** The latest events, in rings that are written over. */
    private static final class EventLog {
        private final int[] heads = new int[EVENTS_KEPT];
        private final int[] firsts = new int[EVENTS_KEPT];
        private final int[] seconds = new int[EVENTS_KEPT];
        private int count;

        void note(int kind, int stream, int first, int second) {
            int slot = count & EVENT_PLACES;
            heads[slot] = kind + EVENT_KINDS * stream;
            firsts[slot] = first;
            seconds[slot] = second;
            count++;
        }

        int tell(int i, int what) {
            if (i < 0 || i >= count || i < count - EVENTS_KEPT) {
                return 0;
            }
            int slot = i & EVENT_PLACES;
            switch (what) {
                case 0:
                    return heads[slot];
                case 1:
                    return firsts[slot];
                case 2:
                    return seconds[slot];
                default:
                    return 0;
            }
        }
    }

    /** Numbers in the order in which they came, in a ring of a fixed length. */
    private static final class Row {
        private final int[] items;
        private int head;
        private int count;

        Row(int length) {
            items = new int[length];
        }

        void add(int item) {
            if (count < items.length) {
                items[(head + count) % items.length] = item;
                count++;
            }
        }

        int at(int i) {
            return i >= 0 && i < count ? items[(head + i) % items.length] : 0;
        }

        int takeFirst() {
            if (count == 0) {
                return 0;
            }
            int first = items[head];
            head = (head + 1) % items.length;
            count--;
            return first;
        }

        void clear() {
            count = 0;
        }
    }

    /** The queue of a stream, with the room that its chunks leave. */
    private static final class ChunkRow {
        private final Row chunks = new Row(MAX_QUEUE);
        private final int mark;
        private final boolean byValue;
        private int room;

        ChunkRow(int mark, boolean byValue) {
            this.mark = mark;
            this.byValue = byValue;
            room = mark;
        }

        int count() {
            return chunks.count;
        }

        void add(int chunk) {
            chunks.add(chunk);
            room -= sizeOf(chunk);
        }

        int takeFirst() {
            int chunk = chunks.takeFirst();
            room += sizeOf(chunk);
            return chunk;
        }

        void clear() {
            chunks.clear();
            room = mark;
        }

        private int sizeOf(int chunk) {
            return byValue ? chunk & 7 : 1;
        }
    }

    /** At most one job waits for each giver, parting, taker and pipe, twelve in all, so that MAX_JOBS is enough. */
    private static final class JobRow {
        private final Row kinds = new Row(MAX_JOBS);
        private final Row numbers = new Row(MAX_JOBS);
        private final Row values = new Row(MAX_JOBS);

        int count() {
            return kinds.count;
        }

        void add(int kind, int number, int value) {
            kinds.add(kind);
            numbers.add(number);
            values.add(value);
        }

        boolean holds(int kind, int number) {
            for (int i = 0; i < kinds.count; i++) {
                if (kinds.at(i) == kind && numbers.at(i) == number) {
                    return true;
                }
            }
            return false;
        }
    }

    private static final class Giver {
        private final int number;
        private final ChunkRow queue;
        private final EventLog log;
        private final Row requests = new Row(MAX_REQUESTS);
        private int state = GIVER_OPEN;
        private int error;
        private int reads;
        private boolean ending;
        private boolean pulling;
        private boolean again;
        private boolean givenUp;
        /** The parting of which this is a branch; none for a root. */
        private Parting origin;
        /** The parting into which this is parted. */
        private Parting parting;
        /** The pipe that holds this. */
        private Pipe pipe;

        Giver(int number, ChunkRow queue, EventLog log) {
            this.number = number;
            this.queue = queue;
            this.log = log;
        }

        boolean isGoing() {
            return state == GIVER_OPEN && !ending;
        }

        int heldBy() {
            if (parting != null) {
                return BY_PARTING;
            }
            return pipe != null ? BY_PIPE : BY_NOBODY;
        }

        /** Whether a pull begins now; one that is needed while another goes on is kept in mind. */
        boolean startsPulling() {
            boolean needed = isGoing() && (requests.count > 0 || queue.room > 0);
            if (needed && pulling) {
                again = true;
                return false;
            }
            if (needed) {
                pulling = true;
            }
            return needed;
        }

        /** After a chunk was taken out; no request waits where a chunk was, so nobody is to be answered. */
        void closeIfDrained() {
            if (ending && queue.count() == 0) {
                state = GIVER_CLOSED;
            }
        }

        void failWith(int with) {
            if (state != GIVER_OPEN) {
                return;
            }
            queue.clear();
            state = GIVER_FAILED;
            error = with;
            answerAll();
        }

        /** For a giver that is closed or failed now; what a holder's request comes to is the kernel's matter. */
        void answerAll() {
            int kind = state == GIVER_FAILED ? READ_FAILED : READ_DONE;
            for (int i = 0; i < requests.count; i++) {
                int request = requests.at(i);
                if (request != HOLDERS_REQUEST) {
                    log.note(kind, number, request, error);
                }
            }
            requests.clear();
        }
    }

    private static final class Parting {
        private final Giver root;
        private final Giver[] branches;
        private boolean reading;
        private boolean again;

        Parting(Giver root, Giver first, Giver second) {
            this.root = root;
            branches = new Giver[] {first, second};
        }

        boolean isGivenUp() {
            for (Giver branch : branches) {
                if (!branch.givenUp) {
                    return false;
                }
            }
            return true;
        }
    }

    private static final class Taker {
        private final int number;
        private final ChunkRow queue;
        private final EventLog log;
        /** The numbers of the writes whose chunks are in the queue. */
        private final Row writesWaiting = new Row(MAX_QUEUE);
        private int state = TAKER_OPEN;
        private int error;
        private int writes;
        /** The job that will end what it is doing: JOB_WRITTEN, JOB_SHUT, JOB_ABORTED or JOB_NONE. */
        private int doing = JOB_NONE;
        private int abortError;
        private boolean abortPending;
        private boolean abortLate;
        private boolean endWaits;
        private boolean held;

        Taker(int number, ChunkRow queue, EventLog log) {
            this.number = number;
            this.queue = queue;
            this.log = log;
        }

        boolean hasError() {
            return state == TAKER_FAILING || state == TAKER_FAILED;
        }

        boolean isShutOrToBe() {
            return endWaits || doing == JOB_SHUT || state == TAKER_CLOSED;
        }

        boolean canShutDown() {
            return state != TAKER_FAILED && !isShutOrToBe();
        }

        int accept(int chunk) {
            writes++;
            if (hasError()) {
                log.note(WRITE_FAILED, number, writes, error);
            } else if (isShutOrToBe()) {
                log.note(WRITE_FAILED, number, writes, CLOSING);
            } else {
                queue.add(chunk);
                writesWaiting.add(writes);
                // It is open here, so that it can't break when it goes on.
                startNext();
            }
            return writes;
        }

        void shutDown() {
            if (canShutDown()) {
                endWaits = true;
                goOn();
            }
        }

        void abortWith(int with) {
            if (state == TAKER_CLOSED || state == TAKER_FAILED) {
                log.note(ABORT_DONE, number, 0, 0);
                return;
            }
            if (abortPending) {
                return;
            }
            abortPending = true;
            abortError = with;
            abortLate = state == TAKER_FAILING;
            if (!abortLate) {
                startFailing(with);
            }
        }

        void startFailing(int with) {
            state = TAKER_FAILING;
            error = with;
            if (doing == JOB_NONE) {
                breakDown();
            }
        }

        void written(int failure) {
            queue.takeFirst();
            int write = writesWaiting.takeFirst();
            if (failure == NO_ERROR) {
                log.note(WRITE_DONE, number, write, 0);
                goOn();
            } else {
                log.note(WRITE_FAILED, number, write, failure);
                failOrBreak(failure);
            }
        }

        void wasShut(int failure) {
            if (failure == NO_ERROR) {
                log.note(SHUT_DONE, number, 0, 0);
                endAbort(failure);
                state = TAKER_CLOSED;
            } else {
                log.note(SHUT_FAILED, number, failure, 0);
                endAbort(failure);
                failOrBreak(failure);
            }
        }

        void wasAborted(int failure) {
            noteAborted(failure);
            loseEnd();
        }

        private void endAbort(int failure) {
            if (abortPending) {
                abortPending = false;
                noteAborted(failure);
            }
        }

        private void noteAborted(int failure) {
            if (failure == NO_ERROR) {
                log.note(ABORT_DONE, number, 0, 0);
            } else {
                log.note(ABORT_FAILED, number, failure, 0);
            }
        }

        /** It does nothing by now, so that an open one that starts failing breaks at once, too. */
        private void failOrBreak(int failure) {
            if (state == TAKER_OPEN) {
                error = failure;
            }
            breakDown();
        }

        private void goOn() {
            if (doing == JOB_NONE && state == TAKER_FAILING) {
                breakDown();
            } else {
                startNext();
            }
        }

        private void startNext() {
            if (doing != JOB_NONE || state != TAKER_OPEN) {
                return;
            }
            if (queue.count() > 0) {
                doing = JOB_WRITTEN;
                log.note(STARTS_WRITE, number, queue.chunks.at(0), 0);
            } else if (endWaits) {
                endWaits = false;
                doing = JOB_SHUT;
                log.note(STARTS_SHUT, number, 0, 0);
            }
        }

        private void breakDown() {
            state = TAKER_FAILED;
            for (int i = 0; i < writesWaiting.count; i++) {
                log.note(WRITE_FAILED, number, writesWaiting.at(i), error);
            }
            writesWaiting.clear();
            queue.clear();
            if (abortPending) {
                startAbort();
            }
            if (doing != JOB_ABORTED) {
                loseEnd();
            }
        }

        private void startAbort() {
            abortPending = false;
            if (abortLate) {
                log.note(ABORT_FAILED, number, error, 0);
            } else {
                doing = JOB_ABORTED;
                log.note(STARTS_ABORT, number, abortError, 0);
            }
        }

        private void loseEnd() {
            if (endWaits) {
                endWaits = false;
                log.note(SHUT_FAILED, number, error, 0);
            }
        }
    }

    private static final class Pipe {
        private final int number;
        private final Giver giver;
        private final Taker taker;
        private final boolean keeps;
        private final boolean spares;
        private final boolean leaves;
        private boolean over;

        Pipe(int number, Giver giver, Taker taker, int flags) {
            this.number = number;
            this.giver = giver;
            this.taker = taker;
            keeps = (flags & 1) != 0;
            spares = (flags & 2) != 0;
            leaves = (flags & 4) != 0;
        }

        /** A held giver has no request but the pipe's own. */
        boolean mustWait() {
            return giver.requests.count > 0 || taker.queue.room <= 0 || taker.queue.count() >= MAX_QUEUE;
        }

        void letGo() {
            over = true;
            giver.requests.clear();
            giver.pipe = null;
            taker.held = false;
        }
    }
}
