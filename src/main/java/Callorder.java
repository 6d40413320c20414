/** A bench that judges calls which overlapped. What each promise says stands in ../shared/DOC.md. */
public final class Callorder {
    private static final int NONE = -1;
    private static final int ALL = -1;
    private static final int MAX_THINGS = 4;
    private static final int MAX_CALLS = 9;
    private static final int THREADS = 3;
    private static final int MAX_ANSWER = 99;
    private static final int CELLS = 3;
    private static final int MAX_STEPS = 3;
    private static final int PLAIN = 0;
    private static final int BUFFERED = 1;
    private static final int FENCED = 2;
    private static final int MAX_SEED = 4095;

    private final History history;
    private final History spare;
    private final Search search;
    private final Verdicts verdicts;
    private final FastWays fastWays;
    private final Causes causes;
    private final Program program;
    private final Runs explored;
    private final Maker maker;
    private final Store store;
    private final StringBuilder out;
    private int knocks;

    public Callorder() {
        history = new History();
        spare = new History();
        search = new Search(history);
        verdicts = new Verdicts(history, search);
        fastWays = new FastWays(history, search);
        causes = new Causes(history);
        program = new Program();
        explored = new Runs(program);
        maker = new Maker();
        store = new Store();
        out = new StringBuilder();
        knocks = 0;
    }

    // ---- things and calls

    public int thing(int kind) throws IllegalArgumentException, IllegalStateException {
        if (!Kinds.isKind(kind)) {
            throw new IllegalArgumentException("no such KIND");
        }
        if (history.things >= MAX_THINGS) {
            throw new IllegalStateException("there are 4 THINGS");
        }
        return history.addThing(kind);
    }

    public int begin(int thread, int thing, int op, int value)
            throws IndexOutOfBoundsException, IllegalArgumentException, IllegalStateException {
        needThread(thread);
        needThing(thing);
        needOp(thing, op, value);
        needRoomToBegin(thread);
        return history.open(thread, thing, op, value);
    }

    public int end(int thread, int answer)
            throws IndexOutOfBoundsException, IllegalArgumentException, IllegalStateException {
        needThread(thread);
        needAnswer(answer);
        int call = history.hangingOf(thread);
        if (call == NONE) {
            throw new IllegalStateException("no CALL of it HANGS");
        }
        history.close(call, answer);
        return call;
    }

    public int call(int thread, int thing, int op, int value, int answer)
            throws IndexOutOfBoundsException, IllegalArgumentException, IllegalStateException {
        needThread(thread);
        needThing(thing);
        needOp(thing, op, value);
        needAnswer(answer);
        needRoomToBegin(thread);
        return history.openAndClose(thread, thing, op, value, answer);
    }

    public int retell(int call, int answer)
            throws IndexOutOfBoundsException, IllegalArgumentException, IllegalStateException {
        needCall(call);
        needAnswer(answer);
        needEnded(call);
        int before = history.answers[call];
        history.tellAnew(call, answer);
        return before;
    }

    public int forget(int call) throws IndexOutOfBoundsException {
        needCall(call);
        history.drop(call);
        return history.calls;
    }

    public int wipe(boolean isAll) {
        int gone = history.calls;
        history.clear(isAll);
        return gone;
    }

    public int tape(int model, int seed) throws IllegalArgumentException {
        needModel(model);
        needSeed(seed);
        maker.makeTape(history, explored, model, seed);
        return history.calls;
    }

    public int trial(int kind, int fault, int seed) throws IllegalArgumentException {
        needTrial(kind, fault);
        needSeed(seed);
        maker.makeTrial(history, kind, fault, seed);
        return history.countHanging();
    }

    // ---- the store

    public int write(int copy, int value)
            throws IndexOutOfBoundsException, IllegalArgumentException, IllegalStateException {
        needCopy(copy);
        if (value < 1 || value > 9) {
            throw new IllegalArgumentException("VALUE is not 1 to 9");
        }
        needRegister(copy);
        if (store.size > Store.MAX_MESSAGES - 2) {
            throw new IllegalStateException("there are more than 6 MESSAGES");
        }
        store.put(copy, value);
        history.openAndClose(copy, 0, 0, value, 0);
        return store.counts[copy];
    }

    public int read(int copy) throws IndexOutOfBoundsException, IllegalStateException {
        needCopy(copy);
        needRegister(copy);
        history.openAndClose(copy, 0, 1, 0, store.values[copy]);
        return store.values[copy];
    }

    public boolean deliver(int message) throws IndexOutOfBoundsException {
        needMessage(message);
        return store.bring(message);
    }

    public int lose(int message) throws IndexOutOfBoundsException {
        needMessage(message);
        store.drop(message);
        return store.size;
    }

    public int repeat(int message) throws IndexOutOfBoundsException, IllegalStateException {
        needMessage(message);
        if (store.size >= Store.MAX_MESSAGES) {
            throw new IllegalStateException("there are 8 MESSAGES");
        }
        store.doubleOne(message);
        return store.size;
    }

    public int ofCopy(int copy, int what) throws IndexOutOfBoundsException, IllegalArgumentException {
        needCopy(copy);
        needWhat(what, 2);
        return store.partOfCopy(copy, what);
    }

    public int ofMessage(int message, int what) throws IndexOutOfBoundsException, IllegalArgumentException {
        needMessage(message);
        needWhat(what, 3);
        return store.partOfMessage(message, what);
    }

    public int spread() {
        return store.countSpread();
    }

    // ---- what is asked of calls

    public int kindOf(int thing) throws IndexOutOfBoundsException {
        needThing(thing);
        return history.kinds[thing];
    }

    public int ofCall(int call, int what) throws IndexOutOfBoundsException, IllegalArgumentException {
        needCall(call);
        needWhat(what, 6);
        return history.partOfCall(call, what);
    }

    public int bench(int what) throws IllegalArgumentException {
        needWhat(what, 5);
        return countOf(what);
    }

    public boolean isAhead(int one, int other) throws IndexOutOfBoundsException {
        needCall(one);
        needCall(other);
        return history.precedes(one, other);
    }

    public boolean isCause(int one, int other) throws IndexOutOfBoundsException {
        needCall(one);
        needCall(other);
        return causes.leadsTo(one, other);
    }

    public String clock(int call) throws IndexOutOfBoundsException {
        needCall(call);
        putClock(call);
        return out.toString();
    }

    public String text(int call) throws IndexOutOfBoundsException {
        needCall(call);
        putText(call);
        return out.toString();
    }

    public String drawn(int thread) throws IndexOutOfBoundsException {
        needThread(thread);
        out.setLength(0);
        for (int moment = 0; moment < history.moments; moment++) {
            out.append(history.signAt(thread, moment));
        }
        return out.toString();
    }

    // ---- what is asked of orders

    public boolean fits(int part) throws IndexOutOfBoundsException {
        needPart(part);
        return verdicts.isFitting(part);
    }

    public String first(int part) throws IndexOutOfBoundsException {
        needPart(part);
        if (!verdicts.isFitting(part)) {
            return "none";
        }
        out.setLength(0);
        int length = verdicts.lengthOf(part);
        for (int place = 0; place < length; place++) {
            putNumber(place, verdicts.callAt(part, place));
        }
        return out.toString();
    }

    public long orders(int part) throws IndexOutOfBoundsException {
        needPart(part);
        return verdicts.countOrders(part);
    }

    public String joined() {
        int length = verdicts.join();
        if (length == NONE) {
            return "none";
        }
        out.setLength(0);
        for (int place = 0; place < length; place++) {
            putNumber(place, verdicts.joinedRow[place]);
        }
        return out.toString();
    }

    public String behind(int thing, int many) throws IndexOutOfBoundsException, IllegalArgumentException {
        needThing(thing);
        if (many < 0) {
            throw new IllegalArgumentException("many is below 0");
        }
        if (!verdicts.isFitting(thing) || many > verdicts.lengthOf(thing)) {
            return "none";
        }
        out.setLength(0);
        Kinds.putState(out, history.kinds[thing], verdicts.stateBehind(thing, many));
        return out.toString();
    }

    public boolean wouldFit(int call, int answer)
            throws IndexOutOfBoundsException, IllegalArgumentException, IllegalStateException {
        needCall(call);
        needAnswer(answer);
        needEnded(call);
        search.prepare(history, history.callsOf(history.thingOf[call]), true);
        search.expect(call, answer);
        return search.isFound();
    }

    public int core(int part) throws IndexOutOfBoundsException {
        needPart(part);
        return verdicts.coreOf(part);
    }

    public int fast(int thing) throws IndexOutOfBoundsException {
        needThing(thing);
        return fastWays.tell(thing);
    }

    public int why(int thing, int what) throws IndexOutOfBoundsException, IllegalArgumentException {
        needThing(thing);
        needWhat(what, 2);
        fastWays.tell(thing);
        return fastWays.reasonPart(what);
    }

    public boolean promise(int which) throws IllegalArgumentException {
        needWhat(which, 3);
        return (verdicts.keptPromises() >> which & 1) == 1;
    }

    public int promises() {
        return verdicts.keptPromises();
    }

    // ---- programs

    public int step(int part, int kind, int cell, int value)
            throws IndexOutOfBoundsException, IllegalArgumentException, IllegalStateException {
        needProgramPart(part);
        if (!Program.isStep(kind, cell, value)) {
            throw new IllegalArgumentException("no such STEP");
        }
        if (program.sizes[part] >= MAX_STEPS) {
            throw new IllegalStateException("the PART has 3 STEPS");
        }
        program.add(part, kind, cell, value);
        return program.sizes[part];
    }

    public int unstep(int part) throws IndexOutOfBoundsException {
        needProgramPart(part);
        return program.clear(part);
    }

    public int steps(int part) throws IndexOutOfBoundsException {
        needProgramPart(part);
        return program.sizes[part];
    }

    public int ofStep(int part, int place, int what) throws IndexOutOfBoundsException, IllegalArgumentException {
        needProgramPart(part);
        if (place < 0 || place >= program.sizes[part]) {
            throw new IndexOutOfBoundsException("no such place");
        }
        needWhat(what, 2);
        return program.partOfStep(part, place, what);
    }

    public int outcomes(int model) throws IllegalArgumentException {
        needModel(model);
        return explored.countEnds(model);
    }

    public int outcome(int model, int place) throws IllegalArgumentException {
        needModel(model);
        if (place < 0) {
            throw new IllegalArgumentException("place is below 0");
        }
        return explored.endAt(model, place);
    }

    public boolean can(int model, int outcome) throws IllegalArgumentException {
        needModel(model);
        return explored.hasEnd(model, outcome);
    }

    public int stuck(int model) throws IllegalArgumentException {
        needModel(model);
        return explored.countStuck(model);
    }

    public int places(int model) throws IllegalArgumentException {
        needModel(model);
        return explored.countPlaces(model);
    }

    public long runs(int model) throws IllegalArgumentException {
        needModel(model);
        return explored.countRuns(model);
    }

    public long unlike() {
        return explored.countUnlike();
    }

    public int fenced() {
        return explored.countEnds(FENCED);
    }

    // ---- all of it

    public int found(int kind, int fault, int many) throws IllegalArgumentException {
        needTrial(kind, fault);
        if (many < 1 || many > 8) {
            throw new IllegalArgumentException("many is not 1 to 8");
        }
        int bad = 0;
        for (int seed = 0; seed < many; seed++) {
            maker.makeTrial(spare, kind, fault, seed);
            search.prepare(spare, spare.callsOf(ALL), true);
            if (!search.isFound()) {
                bad++;
            }
        }
        return bad;
    }

    public int knock() {
        knocks++;
        return knocks;
    }

    public boolean isSound() {
        return areThingsSound() && areFastWaysSound() && arePromisesSound() && isCoreSound() && areRunsSound();
    }

    public long digest() {
        long sum = 4203;
        for (int what = 0; what <= 5; what++) {
            sum = add(sum, countOf(what));
        }
        sum = addCalls(sum);
        for (int part = 0; part < history.things; part++) {
            sum = addPart(sum, part);
        }
        sum = addPart(sum, ALL);
        sum = addFast(sum);
        sum = add(sum, verdicts.keptPromises());
        sum = add(sum, lengthOfNumbers(verdicts.join()));
        sum = addStore(sum);
        sum = addProgram(sum);
        sum = addRuns(sum, PLAIN);
        sum = addRuns(sum, BUFFERED);
        sum = add(sum, explored.countUnlike());
        sum = add(sum, explored.countEnds(FENCED));
        return add(sum, bit(isSound()));
    }

    // ---- what the digest is made of

    private static long add(long sum, long next) {
        return sum * 31 + next;
    }

    private static int bit(boolean isSo) {
        return isSo ? 1 : 0;
    }

    private long addCalls(long start) {
        long sum = start;
        for (int call = 0; call < history.calls; call++) {
            for (int what = 0; what <= 6; what++) {
                sum = add(sum, history.partOfCall(call, what));
            }
            putText(call);
            sum = add(sum, out.length());
            putClock(call);
            sum = add(sum, out.length());
            sum = add(sum, bit(causes.leadsTo(call, call)));
        }
        for (int thread = 0; thread < THREADS; thread++) {
            // drawn() has one sign for each MOMENT, whatever the THREAD
            sum = add(sum, history.moments);
        }
        return sum;
    }

    private long addPart(long start, int part) {
        long sum = add(start, bit(verdicts.isFitting(part)));
        sum = add(sum, lengthOfNumbers(verdicts.lengthOf(part)));
        sum = add(sum, verdicts.countOrders(part));
        return add(sum, verdicts.coreOf(part));
    }

    private long addFast(long start) {
        long sum = start;
        for (int thing = 0; thing < history.things; thing++) {
            sum = add(sum, fastWays.tell(thing));
            for (int what = 0; what <= 2; what++) {
                sum = add(sum, fastWays.reasonPart(what));
            }
        }
        return sum;
    }

    private long addStore(long start) {
        long sum = start;
        for (int copy = 0; copy < Store.COPIES; copy++) {
            for (int what = 0; what <= 2; what++) {
                sum = add(sum, store.partOfCopy(copy, what));
            }
        }
        for (int message = 0; message < store.size; message++) {
            for (int what = 0; what <= 3; what++) {
                sum = add(sum, store.partOfMessage(message, what));
            }
        }
        return add(sum, store.countSpread());
    }

    private long addProgram(long start) {
        long sum = start;
        for (int part = 0; part < Program.PARTS; part++) {
            sum = add(sum, program.sizes[part]);
            for (int place = 0; place < program.sizes[part]; place++) {
                for (int what = 0; what <= 2; what++) {
                    sum = add(sum, program.partOfStep(part, place, what));
                }
            }
        }
        return sum;
    }

    private long addRuns(long start, int model) {
        long sum = add(start, explored.countEnds(model));
        sum = add(sum, explored.endAt(model, 0));
        sum = add(sum, explored.countStuck(model));
        sum = add(sum, explored.countPlaces(model));
        return add(sum, explored.countRuns(model));
    }

    // ---- what isSound() asks

    private boolean areThingsSound() {
        boolean areAllFitting = true;
        for (int thing = 0; thing < history.things; thing++) {
            areAllFitting = areAllFitting && verdicts.isFitting(thing);
        }
        if (areAllFitting != verdicts.isFitting(ALL)) {
            return false;
        }
        if (!areAllFitting) {
            return true;
        }
        int length = verdicts.join();
        search.prepare(history, history.callsOf(ALL), true);
        return search.isGood(verdicts.joinedRow, length);
    }

    private boolean areFastWaysSound() {
        for (int thing = 0; thing < history.things; thing++) {
            int told = fastWays.tell(thing);
            if (told != NONE && told != bit(verdicts.isFitting(thing))) {
                return false;
            }
        }
        return true;
    }

    private boolean arePromisesSound() {
        int kept = verdicts.keptPromises();
        boolean isTimes = (kept & 1) != 0;
        boolean isThreads = (kept & 2) != 0;
        boolean areWeaker = (kept & 12) == 12;
        return (!isTimes || isThreads) && (!isThreads || areWeaker);
    }

    private boolean isCoreSound() {
        if (verdicts.isFitting(ALL)) {
            return true;
        }
        int core = verdicts.coreOf(ALL);
        search.prepare(history, history.callsOf(ALL), true);
        for (int call = 0; call < history.calls; call++) {
            if ((core >> call & 1) == 0) {
                search.mute(call);
            }
        }
        if (search.isFound()) {
            return false;
        }
        for (int call = 0; call < history.calls; call++) {
            if ((core >> call & 1) == 1) {
                search.mute(call);
                if (!search.isFound()) {
                    return false;
                }
                search.expect(call, history.answers[call]);
            }
        }
        return true;
    }

    private boolean areRunsSound() {
        int plain = explored.countEnds(PLAIN);
        for (int place = 0; place < plain; place++) {
            if (!explored.hasEnd(BUFFERED, explored.endAt(PLAIN, place))) {
                return false;
            }
        }
        long runs = explored.countRuns(PLAIN);
        return plain == explored.countEnds(FENCED) && runs <= explored.countRuns(BUFFERED)
                && runs >= explored.countUnlike();
    }

    // ---- what the answers are written with

    private int countOf(int what) {
        switch (what) {
            case 0: return history.things;
            case 1: return history.calls;
            case 2: return history.countHanging();
            case 3: return history.moments;
            case 4: return store.size;
            default: return knocks;
        }
    }

    private void putClock(int call) {
        out.setLength(0);
        for (int thread = 0; thread < THREADS; thread++) {
            if (thread > 0) {
                out.append(',');
            }
            out.append(causes.countOf(thread, call));
        }
    }

    private void putText(int call) {
        out.setLength(0);
        int thing = history.thingOf[call];
        int kind = history.kinds[thing];
        int op = history.ops[call];
        out.append('T').append(history.threads[call]).append(' ');
        out.append(Kinds.nameOf(kind)).append(thing).append('.');
        out.append(Kinds.nameOfOp(kind, op)).append('(');
        if (Kinds.highest(kind, op) > 0) {
            out.append(history.values[call]);
        }
        out.append(')').append(" = ");
        if (history.hangs(call)) {
            out.append('?');
        } else {
            out.append(history.answers[call]);
        }
    }

    private void putNumber(int place, int number) {
        if (place > 0) {
            out.append(' ');
        }
        out.append(number);
    }

    /** How many signs so many numbers of CALLS have with blanks between them ("none", if there is no row). */
    private static int lengthOfNumbers(int many) {
        if (many == NONE) {
            return 4;
        }
        // a number of a CALL has one digit
        return many == 0 ? 0 : 2 * many - 1;
    }

    // ---- what calls must be given

    private void needThread(int thread) {
        if (thread < 0 || thread >= THREADS) {
            throw new IndexOutOfBoundsException("THREAD is not 0 to 2");
        }
    }

    private void needThing(int thing) {
        if (!history.hasThing(thing)) {
            throw new IndexOutOfBoundsException("no such THING");
        }
    }

    private void needCall(int call) {
        if (!history.hasCall(call)) {
            throw new IndexOutOfBoundsException("no such CALL");
        }
    }

    private void needPart(int part) {
        if (part != ALL) {
            needThing(part);
        }
    }

    private void needOp(int thing, int op, int value) {
        int kind = history.kinds[thing];
        if (op < 0 || op >= Kinds.countOps(kind)) {
            throw new IllegalArgumentException("the KIND has no such OP");
        }
        if (value < Kinds.lowest(kind, op) || value > Kinds.highest(kind, op)) {
            throw new IllegalArgumentException("VALUE is not what it may be");
        }
    }

    private void needAnswer(int answer) {
        if (answer < 0 || answer > MAX_ANSWER) {
            throw new IllegalArgumentException("ANSWER is not 0 to 99");
        }
    }

    private void needEnded(int call) {
        if (history.hangs(call)) {
            throw new IllegalStateException("the CALL HANGS");
        }
    }

    private void needRoomToBegin(int thread) {
        if (history.hangingOf(thread) != NONE) {
            throw new IllegalStateException("a CALL of the THREAD HANGS");
        }
        if (history.calls >= MAX_CALLS) {
            throw new IllegalStateException("there are 9 CALLS");
        }
    }

    private void needModel(int model) {
        if (model != PLAIN && model != BUFFERED) {
            throw new IllegalArgumentException("MODEL is not 0 or 1");
        }
    }

    private void needSeed(int seed) {
        if (seed < 0 || seed > MAX_SEED) {
            throw new IllegalArgumentException("SEED is not 0 to 4095");
        }
    }

    private void needTrial(int kind, int fault) {
        if (!Kinds.isKind(kind)) {
            throw new IllegalArgumentException("no such KIND");
        }
        if (fault < 0 || fault > 3) {
            throw new IllegalArgumentException("no such FAULT");
        }
    }

    private void needCopy(int copy) {
        if (copy < 0 || copy >= Store.COPIES) {
            throw new IndexOutOfBoundsException("COPY is not 0 to 2");
        }
    }

    private void needMessage(int message) {
        if (message < 0 || message >= store.size) {
            throw new IndexOutOfBoundsException("no MESSAGE is there");
        }
    }

    private void needRegister(int copy) {
        if (history.things == 0 || history.kinds[0] != Kinds.REGISTER) {
            throw new IllegalStateException("the THING 0 is no REGISTER");
        }
        needRoomToBegin(copy);
    }

    private void needProgramPart(int part) {
        if (part < 0 || part >= Program.PARTS) {
            throw new IndexOutOfBoundsException("PART is not 0 to 2");
        }
    }

    private void needWhat(int what, int highest) {
        if (what < 0 || what > highest) {
            throw new IllegalArgumentException("there is nothing of that number to tell");
        }
    }

    /** What the KINDS of THINGS are: their OPS, the VALUES of these, and what they do to a STATE. */
    private static final class Kinds {
        static final int REGISTER = 0;
        static final int QUEUE = 1;
        static final int STACK = 2;
        static final int SET = 3;
        static final int COUNTER = 4;
        static final int LOCK = 5;
        static final int CELL = 6;
        static final int ANSWER_BITS = 7;
        static final int ANSWER_MASK = 127;
        private static final int VALUE_BITS = 4;
        private static final int MAX_VALUE_BITS = 15;
        /** Room for 12 VALUES, which 9 PUTS can become, of which each third one comes TWICE; ANSWERS go beside. */
        private static final int MAX_ROW_BITS = 48;

        static boolean isKind(int kind) {
            return kind >= REGISTER && kind <= CELL;
        }

        static int countOps(int kind) {
            return kind == SET || kind == CELL ? 3 : 2;
        }

        /** The greatest VALUE of an OP; 0, if it has no use for one. */
        static int highest(int kind, int op) {
            switch (kind) {
                case SET: return 9;
                case LOCK: return 0;
                case CELL: return op == 0 ? 9 : op == 1 ? 0 : 99;
                default: return op == 0 ? 9 : 0;
            }
        }

        static int lowest(int kind, int op) {
            return kind == CELL || highest(kind, op) == 0 ? 0 : 1;
        }

        /** Whether an OP can CHANGE a THING: all but READ and HAS. */
        static boolean canChange(int kind, int op) {
            switch (kind) {
                case REGISTER:
                case COUNTER:
                case CELL: return op != 1;
                case SET: return op != 2;
                default: return true;
            }
        }

        /** Whether it is one of the KINDS that hand a VALUE on from a WRITE or PUT to a READ or TAKE. */
        static boolean handsOn(int kind) {
            return kind == REGISTER || kind == QUEUE || kind == STACK;
        }

        static String nameOf(int kind) {
            switch (kind) {
                case REGISTER: return "REGISTER";
                case QUEUE: return "QUEUE";
                case STACK: return "STACK";
                case SET: return "SET";
                case COUNTER: return "COUNTER";
                case LOCK: return "LOCK";
                default: return "CELL";
            }
        }

        static String nameOfOp(int kind, int op) {
            switch (kind) {
                case QUEUE:
                case STACK: return op == 0 ? "PUT" : "TAKE";
                case SET: return op == 0 ? "ADD" : op == 1 ? "REMOVE" : "HAS";
                case COUNTER: return op == 0 ? "ADD" : "READ";
                case LOCK: return op == 0 ? "TAKE" : "FREE";
                default: return op == 0 ? "WRITE" : op == 1 ? "READ" : "SWAP";
            }
        }

        /** How many bits a STATE needs, if so many CALLS were on the THING. */
        static int widthOf(int kind, int calls) {
            switch (kind) {
                case QUEUE:
                case STACK: return VALUE_BITS * calls;
                case SET: return 9;
                case COUNTER: return 7;
                case LOCK: return 2;
                default: return 4;
            }
        }

        /**
         * What an OP does to a STATE: the STATE then and the ANSWER, in one number. A STATE as it begins is 0;
         * a QUEUE (front lowest) and a STACK (top lowest) have four bits for each VALUE, a SET has a bit for
         * each VALUE, a LOCK holds the THREAD + 1.
         */
        static long act(int kind, int op, int value, int thread, long state) {
            long next = state;
            long answer = 0;
            switch (kind) {
                case QUEUE:
                case STACK:
                    if (op == 1) {
                        next = state >> VALUE_BITS;
                        answer = state & MAX_VALUE_BITS;
                    } else if (kind == STACK) {
                        next = state << VALUE_BITS | value;
                    } else {
                        int bits = 0;
                        while (bits < MAX_ROW_BITS && state >> bits != 0) {
                            bits += VALUE_BITS;
                        }
                        next = state | (long) value << bits;
                    }
                    break;
                case SET:
                    long bit = 1L << (value - 1);
                    boolean isWithin = (state & bit) != 0;
                    next = op == 0 ? state | bit : op == 1 ? state & ~bit : state;
                    answer = isWithin == (op != 0) ? 1 : 0;
                    break;
                case COUNTER:
                    next = op == 0 ? (state + value) % 100 : state;
                    answer = next;
                    break;
                case LOCK:
                    if (op == 0 ? state == 0 : state == thread + 1) {
                        next = op == 0 ? thread + 1 : 0;
                        answer = 1;
                    }
                    break;
                default:
                    if (op == 0) {
                        next = value;
                    } else if (op == 1) {
                        answer = state;
                    } else if (state == value / 10) {
                        next = value % 10;
                        answer = 1;
                    }
            }
            return next << ANSWER_BITS | answer;
        }

        static int answerOf(long told) {
            return (int) told & ANSWER_MASK;
        }

        static long stateOf(long told) {
            return told >> ANSWER_BITS;
        }

        /** Writes a STATE as behind() tells it. */
        static void putState(StringBuilder out, int kind, long state) {
            switch (kind) {
                case QUEUE:
                    for (int bits = 0; bits < MAX_ROW_BITS && state >> bits != 0; bits += VALUE_BITS) {
                        putValue(out, (int) (state >> bits & MAX_VALUE_BITS));
                    }
                    break;
                case STACK:
                    for (int bits = MAX_ROW_BITS; bits >= 0; bits -= VALUE_BITS) {
                        if (state >> bits != 0) {
                            putValue(out, (int) (state >> bits & MAX_VALUE_BITS));
                        }
                    }
                    break;
                case SET:
                    for (int value = 1; value <= 9; value++) {
                        if ((state >> (value - 1) & 1) == 1) {
                            putValue(out, value);
                        }
                    }
                    break;
                case LOCK:
                    if (state == 0) {
                        out.append("free");
                    } else {
                        out.append('T').append((int) state - 1);
                    }
                    break;
                default:
                    out.append((int) state);
            }
        }

        private static void putValue(StringBuilder out, int value) {
            if (out.length() > 0) {
                out.append(' ');
            }
            out.append(value);
        }
    }

    /** The THINGS and CALLS of a bench, and its MOMENTS. */
    private static final class History {
        final int[] kinds = new int[MAX_THINGS];
        final int[] threads = new int[MAX_CALLS];
        final int[] thingOf = new int[MAX_CALLS];
        final int[] ops = new int[MAX_CALLS];
        final int[] values = new int[MAX_CALLS];
        final int[] begins = new int[MAX_CALLS];
        final int[] ends = new int[MAX_CALLS];
        final int[] answers = new int[MAX_CALLS];
        int things = 0;
        int calls = 0;
        int moments = 0;
        /** Becomes greater with each change, so that what was worked out is known to be old. */
        int version = 0;

        boolean hasThing(int thing) {
            return thing >= 0 && thing < things;
        }

        boolean hasCall(int call) {
            return call >= 0 && call < calls;
        }

        boolean hangs(int call) {
            return ends[call] == NONE;
        }

        void clear(boolean isAll) {
            calls = 0;
            moments = 0;
            if (isAll) {
                things = 0;
            }
            version++;
        }

        int addThing(int kind) {
            if (things >= MAX_THINGS) {
                return NONE;
            }
            kinds[things] = kind;
            things++;
            version++;
            return things - 1;
        }

        int open(int thread, int thing, int op, int value) {
            if (calls >= MAX_CALLS) {
                return NONE;
            }
            threads[calls] = thread;
            thingOf[calls] = thing;
            ops[calls] = op;
            values[calls] = value;
            begins[calls] = moments;
            ends[calls] = NONE;
            answers[calls] = NONE;
            moments++;
            calls++;
            version++;
            return calls - 1;
        }

        void close(int call, int answer) {
            if (hasCall(call)) {
                ends[call] = moments;
                answers[call] = answer;
                moments++;
                version++;
            }
        }

        int openAndClose(int thread, int thing, int op, int value, int answer) {
            int call = open(thread, thing, op, value);
            close(call, answer);
            return call;
        }

        void tellAnew(int call, int answer) {
            answers[call] = answer;
            version++;
        }

        void drop(int call) {
            for (int place = call; place + 1 < calls; place++) {
                threads[place] = threads[place + 1];
                thingOf[place] = thingOf[place + 1];
                ops[place] = ops[place + 1];
                values[place] = values[place + 1];
                begins[place] = begins[place + 1];
                ends[place] = ends[place + 1];
                answers[place] = answers[place + 1];
            }
            calls--;
            version++;
        }

        int hangingOf(int thread) {
            for (int call = 0; call < calls; call++) {
                if (threads[call] == thread && hangs(call)) {
                    return call;
                }
            }
            return NONE;
        }

        int countHanging() {
            int many = 0;
            for (int call = 0; call < calls; call++) {
                if (hangs(call)) {
                    many++;
                }
            }
            return many;
        }

        /** Whether one CALL is AHEAD of another one. */
        boolean precedes(int one, int other) {
            return ends[one] != NONE && ends[one] < begins[other];
        }

        /** The set of the CALLS that are AHEAD of a CALL. */
        int callsAheadOf(int call) {
            int set = 0;
            for (int other = 0; other < calls; other++) {
                if (precedes(other, call)) {
                    set |= 1 << other;
                }
            }
            return set;
        }

        /** The set of the CALLS of the same THREAD with smaller numbers. */
        int callsEarlierThan(int call) {
            int set = 0;
            for (int other = 0; other < call; other++) {
                if (threads[other] == threads[call]) {
                    set |= 1 << other;
                }
            }
            return set;
        }

        /** The set of the CALLS of a PART. */
        int callsOf(int part) {
            int set = 0;
            for (int call = 0; call < calls; call++) {
                if (part == ALL || thingOf[call] == part) {
                    set |= 1 << call;
                }
            }
            return set;
        }

        boolean canChange(int call) {
            return Kinds.canChange(kinds[thingOf[call]], ops[call]);
        }

        int partOfCall(int call, int what) {
            switch (what) {
                case 0: return threads[call];
                case 1: return thingOf[call];
                case 2: return ops[call];
                case 3: return values[call];
                case 4: return begins[call];
                case 5: return ends[call];
                default: return answers[call];
            }
        }

        /** The sign that drawn() has for a THREAD at a MOMENT. */
        char signAt(int thread, int moment) {
            for (int call = 0; call < calls; call++) {
                if (threads[call] == thread && begins[call] <= moment) {
                    if (begins[call] == moment) {
                        return '[';
                    }
                    if (ends[call] == moment) {
                        return ']';
                    }
                    if (hangs(call) || ends[call] > moment) {
                        return '-';
                    }
                }
            }
            return '.';
        }
    }

    /** Looks for ORDERS of some of the CALLS of a history. */
    private static final class Search {
        private static final int ANY = -1;
        private static final long IMPOSSIBLE = -1;
        /** 9 CALLS of 3 THREADS have at most 5248 beginnings of ORDERS, so this never fills up. */
        private static final int ROOM = 8192;
        private static final int ROOM_BITS = 13;
        private static final long MIX = 0x9E3779B97F4A7C15L;

        private History history;
        private int members;
        private int required;
        private final int[] kinds = new int[MAX_CALLS];
        /** The set of the members that must stand ahead of each CALL. */
        private final int[] before = new int[MAX_CALLS];
        /** The ANSWER that is due to each CALL, or ANY. */
        private final int[] wanted = new int[MAX_CALLS];
        /** Where the joined STATE has that of the THING of each CALL. */
        private final int[] shift = new int[MAX_CALLS];
        private final long[] mask = new long[MAX_CALLS];
        private final long[] keys = new long[ROOM];
        private final int[] counts = new int[ROOM];
        /** A place of the table counts only if it bears the number of this search: so none need be cleared. */
        private final int[] stamps = new int[ROOM];
        private int stamp = 0;
        /** The smallest ORDER, if one was found. */
        final int[] row = new int[MAX_CALLS];
        int length = 0;

        Search(History history) {
            this.history = history;
            members = 0;
            required = 0;
        }

        /** Takes up the CALLS of a set, in ORDERS that KEEP TIMES or else KEEP THREADS. */
        void prepare(History history, int members, boolean isTimed) {
            this.history = history;
            this.members = members;
            required = 0;
            for (int call = 0; call < history.calls; call++) {
                if ((members >> call & 1) == 1) {
                    kinds[call] = history.kinds[history.thingOf[call]];
                    int ahead = isTimed ? history.callsAheadOf(call) : history.callsEarlierThan(call);
                    before[call] = ahead & members;
                    wanted[call] = history.hangs(call) ? ANY : history.answers[call];
                    required |= history.hangs(call) ? 0 : 1 << call;
                }
            }
            layStates();
        }

        /**
         * Gives each THING its bits of the joined STATE. 9 CALLS on 4 THINGS need at most 51 (three SETS and a
         * QUEUE of 6), so that the set of the CALLS placed has room beside it in a key.
         */
        private void layStates() {
            int offset = 0;
            for (int thing = 0; thing < history.things; thing++) {
                int own = members & history.callsOf(thing);
                if (own != 0) {
                    int width = Kinds.widthOf(history.kinds[thing], Integer.bitCount(own));
                    for (int call = 0; call < history.calls; call++) {
                        if ((own >> call & 1) == 1) {
                            shift[call] = offset;
                            mask[call] = (1L << width) - 1;
                        }
                    }
                    offset += width;
                }
            }
        }

        void mute(int call) {
            wanted[call] = ANY;
        }

        void expect(int call, int answer) {
            wanted[call] = answer;
        }

        /** Whether there is an ORDER; the smallest one stands in the row then. */
        boolean isFound() {
            stamp++;
            length = 0;
            return leads(0, 0, 0);
        }

        long countAll() {
            stamp++;
            return countFrom(0, 0, 0);
        }

        /** Whether a row is an ORDER. */
        boolean isGood(int[] calls, int many) {
            int placed = 0;
            long state = 0;
            for (int place = 0; place < many && place < calls.length; place++) {
                int call = calls[place];
                if (!history.hasCall(call) || !isNext(call, placed)) {
                    return false;
                }
                state = moveOn(call, state, Kinds.act(kinds[call], history.ops[call],
                        history.values[call], history.threads[call], ownState(call, state)));
                if (state == IMPOSSIBLE) {
                    return false;
                }
                placed |= 1 << call;
            }
            return (required & ~placed) == 0;
        }

        private boolean leads(int placed, long state, int depth) {
            if ((required & ~placed) == 0) {
                length = depth;
                return true;
            }
            if (depth >= MAX_CALLS || stamps[slotOf(placed, state)] == stamp) {
                return false;
            }
            for (int call = 0; call < history.calls; call++) {
                if (isNext(call, placed)) {
                    long next = moveOn(call, state, Kinds.act(kinds[call], history.ops[call],
                            history.values[call], history.threads[call], ownState(call, state)));
                    if (next != IMPOSSIBLE && leads(placed | (1 << call), next, depth + 1)) {
                        row[depth] = call;
                        return true;
                    }
                }
            }
            keep(slotOf(placed, state), placed, state, 0);
            return false;
        }

        private int countFrom(int placed, long state, int depth) {
            if (depth > MAX_CALLS) {
                return 0;
            }
            int known = slotOf(placed, state);
            if (stamps[known] == stamp) {
                return counts[known];
            }
            int sum = (required & ~placed) == 0 ? 1 : 0;
            for (int call = 0; call < history.calls; call++) {
                if (isNext(call, placed)) {
                    long next = moveOn(call, state, Kinds.act(kinds[call], history.ops[call],
                            history.values[call], history.threads[call], ownState(call, state)));
                    if (next != IMPOSSIBLE) {
                        sum += countFrom(placed | (1 << call), next, depth + 1);
                    }
                }
            }
            keep(slotOf(placed, state), placed, state, sum);
            return sum;
        }

        private boolean isNext(int call, int placed) {
            return (members & ~placed & (1 << call)) != 0 && (before[call] & ~placed) == 0;
        }

        /** The STATE of the THING of a CALL, out of the joined STATE. */
        private long ownState(int call, long state) {
            return (state >> shift[call]) & mask[call];
        }

        /** The joined STATE behind a CALL that did this; IMPOSSIBLE, if that is not the ANSWER that it told. */
        private long moveOn(int call, long state, long told) {
            if (wanted[call] != ANY && wanted[call] != (told & Kinds.ANSWER_MASK)) {
                return IMPOSSIBLE;
            }
            return (state & ~(mask[call] << shift[call])) | ((told >> Kinds.ANSWER_BITS) << shift[call]);
        }

        private void keep(int slot, int placed, long state, int count) {
            keys[slot] = (state << MAX_CALLS) | placed;
            stamps[slot] = stamp;
            counts[slot] = count;
        }

        /** Where the table has a beginning of ORDERS, or is free for it. */
        private int slotOf(int placed, long state) {
            long key = (state << MAX_CALLS) | placed;
            int slot = (int) ((key * MIX) >>> (64 - ROOM_BITS));
            for (int tries = 0; tries < ROOM; tries++) {
                if (stamps[slot] != stamp || keys[slot] == key) {
                    return slot;
                }
                slot = (slot + 1) & (ROOM - 1);
            }
            return slot;
        }
    }

    /** What was found out of ORDERS of the CALLS as they are; it is kept till something changes. */
    private static final class Verdicts {
        private static final int SLOTS = MAX_THINGS + 1;
        private static final int UNKNOWN = -2;

        private final History history;
        private final Search search;
        private int version;
        private final int[] rows = new int[SLOTS * MAX_CALLS];
        private final int[] lengths = new int[SLOTS];
        private final long[] counts = new long[SLOTS];
        private final int[] cores = new int[SLOTS];
        private int promises = UNKNOWN;
        private final int[] heads = new int[MAX_THINGS];
        final int[] joinedRow = new int[MAX_CALLS];

        Verdicts(History history, Search search) {
            this.history = history;
            this.search = search;
            version = NONE;
        }

        private void refresh() {
            if (version != history.version) {
                version = history.version;
                promises = UNKNOWN;
                for (int slot = 0; slot < SLOTS; slot++) {
                    lengths[slot] = UNKNOWN;
                    counts[slot] = UNKNOWN;
                    cores[slot] = UNKNOWN;
                }
            }
        }

        /** Where the rows have what belongs to a PART. */
        private int slotOf(int part) {
            return history.hasThing(part) ? part : MAX_THINGS;
        }

        /** How many CALLS the FIRST ORDER of a PART has; NONE, if it does not FIT. */
        int lengthOf(int part) {
            refresh();
            int slot = slotOf(part);
            if (lengths[slot] == UNKNOWN) {
                search.prepare(history, history.callsOf(part), true);
                lengths[slot] = search.isFound() ? search.length : NONE;
                for (int place = 0; place < lengths[slot]; place++) {
                    rows[slot * MAX_CALLS + place] = search.row[place];
                }
            }
            return lengths[slot];
        }

        boolean isFitting(int part) {
            return lengthOf(part) != NONE;
        }

        /** The CALL at a place of the FIRST ORDER; lengthOf() tells how many there are. */
        int callAt(int part, int place) {
            return rows[slotOf(part) * MAX_CALLS + place];
        }

        long countOrders(int part) {
            refresh();
            int slot = slotOf(part);
            if (counts[slot] == UNKNOWN) {
                search.prepare(history, history.callsOf(part), true);
                counts[slot] = search.countAll();
            }
            return counts[slot];
        }

        int coreOf(int part) {
            int slot = slotOf(part);
            if (lengthOf(part) != NONE) {
                return 0;
            }
            if (cores[slot] == UNKNOWN) {
                int members = history.callsOf(part);
                int core = 0;
                search.prepare(history, members, true);
                for (int call = 0; call < history.calls; call++) {
                    if ((members >> call & 1) == 1 && !history.hangs(call)) {
                        search.mute(call);
                        if (search.isFound()) {
                            core |= 1 << call;
                            search.expect(call, history.answers[call]);
                        }
                    }
                }
                cores[slot] = core;
            }
            return cores[slot];
        }

        /** The STATE of a THING behind some first CALLS of its FIRST ORDER. */
        long stateBehind(int thing, int many) {
            long state = 0;
            int length = lengthOf(thing);
            for (int place = 0; place < many && place < length; place++) {
                int call = callAt(thing, place);
                state = Kinds.stateOf(Kinds.act(history.kinds[thing], history.ops[call], history.values[call],
                        history.threads[call], state));
            }
            return state;
        }

        /** Makes JOINED; tells how many CALLS it has, or NONE. */
        int join() {
            int left = 0;
            for (int thing = 0; thing < history.things; thing++) {
                if (lengthOf(thing) == NONE) {
                    return NONE;
                }
                heads[thing] = 0;
                for (int place = 0; place < lengths[thing]; place++) {
                    left |= 1 << callAt(thing, place);
                }
            }
            int many = Integer.bitCount(left);
            for (int place = 0; place < many; place++) {
                int call = nextJoined(left);
                if (call == NONE) {
                    return place;
                }
                joinedRow[place] = call;
                heads[history.thingOf[call]]++;
                left &= ~(1 << call);
            }
            return many;
        }

        private int nextJoined(int left) {
            int best = NONE;
            for (int thing = 0; thing < history.things; thing++) {
                if (heads[thing] < lengths[thing]) {
                    int call = callAt(thing, heads[thing]);
                    if ((history.callsAheadOf(call) & left) == 0 && (best == NONE || call < best)) {
                        best = call;
                    }
                }
            }
            return best;
        }

        /** The set of the PROMISES that hold. */
        int keptPromises() {
            refresh();
            if (promises == UNKNOWN) {
                int kept = lengthOf(ALL) != NONE ? 1 : 0;
                search.prepare(history, history.callsOf(ALL), false);
                kept |= search.isFound() ? 2 : 0;
                kept |= keepsViews() ? 4 : 0;
                kept |= keepsEach() ? 8 : 0;
                promises = kept;
            }
            return promises;
        }

        private boolean keepsViews() {
            for (int thread = 0; thread < THREADS; thread++) {
                search.prepare(history, viewOf(thread), false);
                for (int call = 0; call < history.calls; call++) {
                    if (history.threads[call] != thread) {
                        search.mute(call);
                    }
                }
                if (!search.isFound()) {
                    return false;
                }
            }
            return true;
        }

        /** The set of the CALLS of a THREAD, and of those of others that can CHANGE a THING. */
        private int viewOf(int thread) {
            int set = 0;
            for (int call = 0; call < history.calls; call++) {
                if (history.threads[call] == thread || history.canChange(call)) {
                    set |= 1 << call;
                }
            }
            return set;
        }

        private boolean keepsEach() {
            for (int thing = 0; thing < history.things; thing++) {
                search.prepare(history, history.callsOf(thing), false);
                if (!search.isFound()) {
                    return false;
                }
            }
            return true;
        }
    }

    /** The FAST ways to tell whether a THING FITS. */
    private static final class FastWays {
        private static final int MAX_VALUE = 9;
        /** Behind all MOMENTS. */
        private static final int NEVER = 1000000;
        private static final int UNASKED = 1;
        private static final int READ_EARLY = 2;
        private static final int TWICE = 2;
        private static final int TURNED = 3;
        private static final int WRONGLY_EMPTY = 4;
        private static final int WRONG_ANSWER = 5;

        private final History history;
        private final Search search;
        private int version;
        private int judged = NONE;
        private boolean isThere = false;
        private int reason = 0;
        private int firstValue = NONE;
        private int secondValue = NONE;
        /** The WRITE or PUT of each VALUE. */
        private final int[] givers = new int[MAX_VALUE + 1];
        /** The TAKE that was ANSWERED each VALUE. */
        private final int[] takers = new int[MAX_VALUE + 1];
        /** The smallest END and the greatest BEGIN of each CLUSTER. */
        private final int[] firstEnds = new int[MAX_VALUE + 1];
        private final int[] lastBegins = new int[MAX_VALUE + 1];

        FastWays(History history, Search search) {
            this.history = history;
            this.search = search;
            version = NONE;
        }

        /** 1, if a THING FITS by its FAST way, 0, if not; NONE, if there is none. */
        int tell(int thing) {
            if (version != history.version || judged != thing) {
                version = history.version;
                judged = thing;
                reason = 0;
                int kind = history.kinds[thing];
                isThere = kind == Kinds.SET
                        || (kind == Kinds.REGISTER || kind == Kinds.QUEUE) && takeGivers(thing);
                if (isThere && kind == Kinds.SET) {
                    judgeSet(thing);
                } else if (isThere && kind == Kinds.REGISTER) {
                    judgeRegister(thing);
                } else if (isThere) {
                    judgeQueue(thing);
                }
            }
            return !isThere ? NONE : reason == 0 ? 1 : 0;
        }

        /** A part of the reason why the THING asked for last does not FIT; NONE, if there is none. */
        int reasonPart(int what) {
            if (!isThere || reason == 0) {
                return NONE;
            }
            return what == 0 ? reason : what == 1 ? firstValue : secondValue;
        }

        /** Keeps the smallest of all reasons that are there. */
        private void blame(int why, int one, int other) {
            boolean isSmaller = why < reason || why == reason
                    && (one < firstValue || one == firstValue && other < secondValue);
            if (reason == 0 || isSmaller) {
                reason = why;
                firstValue = one;
                secondValue = other;
            }
        }

        /** Finds who gave each VALUE; false, if a CALL HANGS or a VALUE was given twice. */
        private boolean takeGivers(int thing) {
            for (int value = 0; value <= MAX_VALUE; value++) {
                givers[value] = NONE;
            }
            for (int call = 0; call < history.calls; call++) {
                if (history.thingOf[call] == thing) {
                    int value = history.values[call];
                    if (history.hangs(call) || isGiver(call) && givers[value] != NONE) {
                        return false;
                    }
                    if (isGiver(call)) {
                        givers[value] = call;
                    }
                }
            }
            return true;
        }

        /** Whether a CALL on a REGISTER or QUEUE is a WRITE or PUT. */
        private boolean isGiver(int call) {
            return history.ops[call] == 0;
        }

        private boolean isGiven(int value) {
            return value >= 1 && value <= MAX_VALUE && givers[value] != NONE;
        }

        private void judgeSet(int thing) {
            for (int value = 1; value <= MAX_VALUE; value++) {
                int members = 0;
                for (int call = 0; call < history.calls; call++) {
                    if (history.thingOf[call] == thing && history.values[call] == value) {
                        members |= 1 << call;
                    }
                }
                search.prepare(history, members, true);
                if (!search.isFound()) {
                    blame(1, value, NONE);
                }
            }
        }

        private void judgeRegister(int thing) {
            for (int call = 0; call < history.calls; call++) {
                if (history.thingOf[call] == thing) {
                    int answer = history.answers[call];
                    if (isGiver(call)) {
                        blameGiver(call);
                    } else if (answer != 0 && !isGiven(answer)) {
                        blame(UNASKED, answer, NONE);
                    } else if (answer != 0 && history.precedes(call, givers[answer])) {
                        blame(READ_EARLY, answer, NONE);
                    }
                }
            }
            gatherClusters(thing);
            for (int one = 0; one <= MAX_VALUE; one++) {
                for (int other = one + 1; other <= MAX_VALUE; other++) {
                    if (mustComeAhead(one, other) && mustComeAhead(other, one)) {
                        blame(TURNED, one, other);
                    }
                }
            }
        }

        private void blameGiver(int call) {
            if (history.answers[call] != 0) {
                blame(WRONG_ANSWER, history.values[call], NONE);
            }
        }

        private void gatherClusters(int thing) {
            for (int value = 0; value <= MAX_VALUE; value++) {
                // the WRITE of 0 ended ahead of all MOMENTS
                firstEnds[value] = value == 0 ? -1 : NEVER;
                lastBegins[value] = -1;
            }
            for (int call = 0; call < history.calls; call++) {
                int value = isGiver(call) ? history.values[call] : history.answers[call];
                if (history.thingOf[call] == thing && value >= 0 && value <= MAX_VALUE) {
                    firstEnds[value] = Math.min(firstEnds[value], history.ends[call]);
                    lastBegins[value] = Math.max(lastBegins[value], history.begins[call]);
                }
            }
        }

        private boolean mustComeAhead(int one, int other) {
            return firstEnds[one] < lastBegins[other];
        }

        private void judgeQueue(int thing) {
            for (int value = 0; value <= MAX_VALUE; value++) {
                takers[value] = NONE;
            }
            for (int call = 0; call < history.calls; call++) {
                if (history.thingOf[call] == thing) {
                    if (isGiver(call)) {
                        blameGiver(call);
                    } else if (history.answers[call] > 0) {
                        judgeTaker(call, history.answers[call]);
                    }
                }
            }
            for (int one = 1; one <= MAX_VALUE; one++) {
                for (int other = 1; other <= MAX_VALUE; other++) {
                    if (isTurned(one, other)) {
                        blame(TURNED, one, other);
                    }
                }
            }
            for (int call = 0; call < history.calls; call++) {
                if (history.thingOf[call] == thing && !isGiver(call) && history.answers[call] == 0
                        && isWronglyEmpty(call)) {
                    blame(WRONGLY_EMPTY, call, NONE);
                }
            }
        }

        private void judgeTaker(int call, int value) {
            if (!isGiven(value) || history.precedes(call, givers[value])) {
                blame(UNASKED, value, NONE);
            }
            if (value <= MAX_VALUE) {
                if (takers[value] != NONE) {
                    blame(TWICE, value, NONE);
                }
                takers[value] = call;
            }
        }

        private boolean isTurned(int one, int other) {
            return isGiven(one) && isGiven(other) && history.precedes(givers[one], givers[other])
                    && takers[other] != NONE
                    && (takers[one] == NONE || history.precedes(takers[other], takers[one]));
        }

        private boolean isWronglyEmpty(int call) {
            for (int moment = history.begins[call]; moment < history.ends[call]; moment++) {
                boolean isFilled = false;
                for (int value = 1; value <= MAX_VALUE && !isFilled; value++) {
                    isFilled = isGiven(value) && history.ends[givers[value]] <= moment
                            && (takers[value] == NONE || history.begins[takers[value]] > moment);
                }
                if (!isFilled) {
                    return false;
                }
            }
            return true;
        }
    }

    /** What was a CAUSE of what. */
    private static final class Causes {
        private final History history;
        private int version;
        private final int[] sets = new int[MAX_CALLS];

        Causes(History history) {
            this.history = history;
            version = NONE;
        }

        boolean leadsTo(int one, int other) {
            refresh();
            return (sets[other] >> one & 1) == 1;
        }

        /** How many CALLS of a THREAD are a CAUSE of a CALL, or the CALL itself. */
        int countOf(int thread, int call) {
            refresh();
            int many = 0;
            for (int other = 0; other < history.calls; other++) {
                if (history.threads[other] == thread && (other == call || (sets[call] >> other & 1) == 1)) {
                    many++;
                }
            }
            return many;
        }

        private void refresh() {
            if (version == history.version) {
                return;
            }
            version = history.version;
            for (int call = 0; call < history.calls; call++) {
                sets[call] = history.callsEarlierThan(call);
                int giver = giverOf(call);
                if (giver != NONE) {
                    sets[call] |= 1 << giver;
                }
            }
            for (int middle = 0; middle < history.calls; middle++) {
                for (int call = 0; call < history.calls; call++) {
                    if ((sets[call] >> middle & 1) == 1) {
                        sets[call] |= sets[middle];
                    }
                }
            }
        }

        /** The one WRITE or PUT of what a READ or TAKE was ANSWERED, or NONE. */
        private int giverOf(int call) {
            int thing = history.thingOf[call];
            if (!Kinds.handsOn(history.kinds[thing]) || history.ops[call] == 0 || history.hangs(call)) {
                return NONE;
            }
            int giver = NONE;
            for (int other = 0; other < history.calls; other++) {
                if (history.thingOf[other] == thing && history.ops[other] == 0
                        && history.values[other] == history.answers[call]) {
                    if (giver != NONE) {
                        return NONE;
                    }
                    giver = other;
                }
            }
            return giver;
        }
    }

    /** The STEPS of the three PARTS of the PROGRAM. */
    private static final class Program {
        static final int PARTS = 3;
        static final int WRITE = 0;
        static final int LOAD = 1;
        static final int STORE = 2;
        static final int RAISE = 3;
        static final int FENCE = 4;
        static final int TAKE = 5;
        static final int SWAP = 6;

        final int[] sizes = new int[PARTS];
        final int[] kinds = new int[PARTS * MAX_STEPS];
        final int[] cells = new int[PARTS * MAX_STEPS];
        final int[] values = new int[PARTS * MAX_STEPS];
        /** Becomes greater with each change, so that what was worked out is known to be old. */
        int version = 0;

        static boolean isStep(int kind, int cell, int value) {
            if (kind < WRITE || kind > SWAP || cell < 0 || cell >= CELLS) {
                return false;
            }
            switch (kind) {
                case WRITE: return value >= 0 && value <= 9;
                case RAISE: return cell == 0 && value >= 1 && value <= 9;
                case FENCE: return cell == 0 && value == 0;
                case SWAP: return value >= 0 && value <= 99;
                default: return value == 0;
            }
        }

        static boolean puts(int kind) {
            return kind == WRITE || kind == STORE;
        }

        static boolean usesCell(int kind) {
            return kind != RAISE && kind != FENCE;
        }

        /** Whether a STEP can be done only if the own BUFFER is empty. */
        static boolean needsEmpty(int kind, int model) {
            // FENCED: a BUFFER that is not empty means that the FENCE behind what was put is not yet done
            return model == FENCED || kind == FENCE || kind == TAKE || kind == SWAP;
        }

        void add(int part, int kind, int cell, int value) {
            int index = indexOf(part, sizes[part]);
            kinds[index] = kind;
            cells[index] = cell;
            values[index] = value;
            sizes[part]++;
            version++;
        }

        int clear(int part) {
            int gone = sizes[part];
            sizes[part] = 0;
            version++;
            return gone;
        }

        /** Where the STEP at a place of a PART stands in the rows. */
        int indexOf(int part, int place) {
            return part * MAX_STEPS + place;
        }

        int partOfStep(int part, int place, int what) {
            int index = indexOf(part, place);
            return what == 0 ? kinds[index] : what == 1 ? cells[index] : values[index];
        }
    }

    /**
     * The RUNS of the PROGRAM. A PLACE is one number: four bits for each CELL, then for each PART two bits for
     * the STEPS done, four for the HAND, and eleven for the BUFFER: its VALUES as digits behind a 1. The CELLS
     * that these go to are those of the last STEPS done that put something.
     */
    private static final class Runs {
        private static final int CELL_BITS = 4;
        private static final int MAX_CELL = 15;
        private static final int FIRST_PART = CELL_BITS * CELLS;
        private static final int PART_BITS = 17;
        private static final int DONE_BITS = 2;
        private static final int MAX_DONE = 3;
        private static final int HAND_BITS = 4;
        private static final int MAX_HAND = 15;
        private static final int MAX_BUFFER = 2047;
        /** A BUFFER without VALUES: only the 1 ahead of them. */
        private static final int EMPTY = 1;
        private static final int MODELS = 3;
        /**
         * The rows begin small and become twice as long when they are full. Counting what each PART can have in
         * its HAND and BUFFER, and who can have come last to each CELL, no PROGRAM has more than 553399 PLACES
         * and 294912 OUTCOMES (BoundTest counts; the greatest ones known have 5152 and 230), so there is room
         * for all of them.
         */
        private static final int FIRST_PLACES = 1024;
        private static final int MOST_PLACES = 1 << 20;
        /** Each PART can do a STEP and a FLUSH. */
        private static final int MOST_NEXT = 2 * Program.PARTS;
        private static final int FIRST_ENDS = 128;
        private static final int MOST_ENDS = 1 << 19;
        private static final int FIRST_SLOT_BITS = 11;
        private static final long MIX = 0x9E3779B97F4A7C15L;
        private static final int MAX_MOVES = 9;

        final Program program;
        private int version;
        private final boolean[] isKnown = new boolean[MODELS];
        private long[] keys = new long[FIRST_PLACES];
        /** How many ways lead to each PLACE from the beginning. */
        private long[] ways = new long[FIRST_PLACES];
        private int size = 0;
        /** Twice as many as there is room for PLACES, so that a free one is found soon. */
        private int[] slots = new int[1 << FIRST_SLOT_BITS];
        /** A slot counts only if it bears the number of this search: so none need be cleared. */
        private int[] stamps = new int[1 << FIRST_SLOT_BITS];
        private int slotBits = FIRST_SLOT_BITS;
        private int stamp = 0;
        /** The OUTCOMES of MODEL after MODEL, by rising numbers, with this much room for each. */
        private int[] ends = new int[MODELS * FIRST_ENDS];
        private int endRoom = FIRST_ENDS;
        private final int[] endCounts = new int[MODELS];
        private final int[] stuckCounts = new int[MODELS];
        private final int[] placeCounts = new int[MODELS];
        private final long[] runCounts = new long[MODELS];
        private long unlikeCount = NONE;

        Runs(Program program) {
            this.program = program;
            version = NONE;
        }

        int countEnds(int model) {
            explore(model);
            return endCounts[model];
        }

        /** The OUTCOME at a place of them, by rising numbers; NONE behind the last one. */
        int endAt(int model, int place) {
            explore(model);
            return place >= 0 && place < endCounts[model] ? ends[model * endRoom + place] : NONE;
        }

        boolean hasEnd(int model, int end) {
            explore(model);
            int low = 0;
            int high = endCounts[model];
            for (int tries = 0; tries < MOST_ENDS && low < high; tries++) {
                int middle = (low + high) / 2;
                if (ends[model * endRoom + middle] < end) {
                    low = middle + 1;
                } else {
                    high = middle;
                }
            }
            return low < endCounts[model] && ends[model * endRoom + low] == end;
        }

        int countStuck(int model) {
            explore(model);
            return stuckCounts[model];
        }

        int countPlaces(int model) {
            explore(model);
            return placeCounts[model];
        }

        long countRuns(int model) {
            explore(model);
            return runCounts[model];
        }

        long countUnlike() {
            refresh();
            if (unlikeCount == NONE) {
                unlikeCount = countUnlikeFrom(start(), 0, 0);
            }
            return unlikeCount;
        }

        private void refresh() {
            if (version != program.version) {
                version = program.version;
                unlikeCount = NONE;
                for (int model = 0; model < MODELS; model++) {
                    isKnown[model] = false;
                }
            }
        }

        /** Goes to all PLACES, nearest first, so that all ways to a PLACE are known when one goes on from it. */
        private void explore(int model) {
            refresh();
            if (isKnown[model]) {
                return;
            }
            isKnown[model] = true;
            endCounts[model] = 0;
            stuckCounts[model] = 0;
            runCounts[model] = 0;
            stamp++;
            size = 0;
            reach(start(), 1);
            for (int place = 0; place < size && place < MOST_PLACES; place++) {
                if (size + MOST_NEXT > keys.length) {
                    growPlaces();
                }
                boolean isMoved = false;
                for (int part = 0; part < Program.PARTS; part++) {
                    long next = stepped(keys[place], part, model);
                    if (next != NONE) {
                        reach(next, ways[place]);
                        isMoved = true;
                    }
                    next = flushed(keys[place], part);
                    if (next != NONE) {
                        reach(next, ways[place]);
                        isMoved = true;
                    }
                }
                if (!isMoved) {
                    close(keys[place], ways[place], model);
                }
            }
            placeCounts[model] = size;
        }

        private void reach(long place, long many) {
            int slot = slotOf(place);
            if (stamps[slot] == stamp) {
                ways[slots[slot]] += many;
                return;
            }
            if (size < keys.length) {
                stamps[slot] = stamp;
                slots[slot] = size;
                keys[size] = place;
                ways[size] = many;
                size++;
            }
        }

        /** Where the table has a PLACE, or is free for it. */
        private int slotOf(long place) {
            int slot = (int) ((place * MIX) >>> (64 - slotBits));
            for (int tries = 0; tries < slots.length; tries++) {
                if (stamps[slot] != stamp || keys[slots[slot]] == place) {
                    return slot;
                }
                slot = (slot + 1) & (slots.length - 1);
            }
            return slot;
        }

        private void growPlaces() {
            if (keys.length >= MOST_PLACES) {
                return;
            }
            long[] moreKeys = new long[2 * keys.length];
            long[] moreWays = new long[2 * keys.length];
            System.arraycopy(keys, 0, moreKeys, 0, keys.length);
            System.arraycopy(ways, 0, moreWays, 0, keys.length);
            keys = moreKeys;
            ways = moreWays;
            slotBits++;
            slots = new int[1 << slotBits];
            stamps = new int[1 << slotBits];
            for (int place = 0; place < size; place++) {
                int slot = slotOf(keys[place]);
                stamps[slot] = stamp;
                slots[slot] = place;
            }
        }

        /** Counts the RUNS that come no farther than a PLACE. */
        private void close(long place, long many, int model) {
            runCounts[model] += many;
            boolean isEnd = true;
            for (int part = 0; part < Program.PARTS; part++) {
                isEnd = isEnd && doneOf(place, part) == program.sizes[part];
            }
            if (isEnd) {
                keepEnd(model, endOf(place));
            } else {
                stuckCounts[model]++;
            }
        }

        /** Puts an OUTCOME among the others; it is a new one, as PLACES with all done differ only by it. */
        private void keepEnd(int model, int end) {
            if (endCounts[model] >= endRoom) {
                growEnds();
            }
            if (endCounts[model] >= endRoom) {
                return;
            }
            int first = model * endRoom;
            int index = first + endCounts[model];
            while (index > first && ends[index - 1] > end) {
                ends[index] = ends[index - 1];
                index--;
            }
            ends[index] = end;
            endCounts[model]++;
        }

        private void growEnds() {
            if (endRoom >= MOST_ENDS) {
                return;
            }
            int[] more = new int[2 * ends.length];
            for (int model = 0; model < MODELS; model++) {
                System.arraycopy(ends, model * endRoom, more, 2 * model * endRoom, endRoom);
            }
            ends = more;
            endRoom = 2 * endRoom;
        }

        private static int endOf(long place) {
            int end = 0;
            for (int cell = 0; cell < CELLS; cell++) {
                end = end * 10 + cellOf(place, cell);
            }
            for (int part = 0; part < Program.PARTS; part++) {
                end = end * 10 + handOf(place, part);
            }
            return end;
        }

        /** Takes of RUNS that are ALIKE only one: a PART sleeps while what it would do was done first elsewhere. */
        private long countUnlikeFrom(long place, int asleep, int depth) {
            if (depth > MAX_MOVES) {
                return 0;
            }
            boolean isEnd = true;
            long sum = 0;
            int sleeping = asleep;
            for (int part = 0; part < Program.PARTS; part++) {
                long next = stepped(place, part, PLAIN);
                if (next != NONE) {
                    isEnd = false;
                    if ((sleeping >> part & 1) == 0) {
                        sum += countUnlikeFrom(next, stillAsleep(place, part, sleeping), depth + 1);
                        sleeping |= 1 << part;
                    }
                }
            }
            return isEnd ? 1 : sum;
        }

        /** Those PARTS of a set whose next STEPS are FREE of the next one of a PART. */
        private int stillAsleep(long place, int part, int sleeping) {
            int set = 0;
            for (int other = 0; other < Program.PARTS; other++) {
                if (other != part && (sleeping >> other & 1) == 1 && areFree(place, part, other)) {
                    set |= 1 << other;
                }
            }
            return set;
        }

        private boolean areFree(long place, int part, int other) {
            int one = program.indexOf(part, doneOf(place, part));
            int two = program.indexOf(other, doneOf(place, other));
            boolean isShared = Program.usesCell(program.kinds[one]) && Program.usesCell(program.kinds[two])
                    && program.cells[one] == program.cells[two];
            return !isShared || program.kinds[one] == Program.LOAD && program.kinds[two] == Program.LOAD;
        }

        /** The PLACE as a RUN begins. */
        static long start() {
            long place = 0;
            for (int part = 0; part < Program.PARTS; part++) {
                place = withPart(place, part, 0, 0, EMPTY);
            }
            return place;
        }

        static int cellOf(long place, int cell) {
            return (int) (place >> (CELL_BITS * cell)) & MAX_CELL;
        }

        private static long withCell(long place, int cell, int value) {
            int shift = CELL_BITS * cell;
            return (place & ~((long) MAX_CELL << shift)) | ((long) value << shift);
        }

        static int doneOf(long place, int part) {
            return (int) (place >> (FIRST_PART + PART_BITS * part)) & MAX_DONE;
        }

        static int handOf(long place, int part) {
            return (int) (place >> (FIRST_PART + PART_BITS * part + DONE_BITS)) & MAX_HAND;
        }

        private static int bufferOf(long place, int part) {
            return (int) (place >> (FIRST_PART + PART_BITS * part + DONE_BITS + HAND_BITS)) & MAX_BUFFER;
        }

        private static long withPart(long place, int part, int done, int hand, int buffer) {
            int shift = FIRST_PART + PART_BITS * part;
            long own = ((long) buffer << (DONE_BITS + HAND_BITS)) | (hand << DONE_BITS) | done;
            return (place & ~(((1L << PART_BITS) - 1) << shift)) | (own << shift);
        }

        /** The PLACE behind the next STEP of a PART; NONE, if it cannot be done. */
        long stepped(long place, int part, int model) {
            int done = doneOf(place, part);
            if (done >= program.sizes[part]) {
                return NONE;
            }
            int index = program.indexOf(part, done);
            int kind = program.kinds[index];
            int cell = program.cells[index];
            int value = program.values[index];
            int hand = handOf(place, part);
            int buffer = bufferOf(place, part);
            int held = cellOf(place, cell);
            if (buffer != EMPTY && Program.needsEmpty(kind, model) || kind == Program.TAKE && held != 0) {
                return NONE;
            }
            switch (kind) {
                case Program.WRITE:
                case Program.STORE:
                    int put = kind == Program.WRITE ? value : hand;
                    if (model == PLAIN) {
                        held = put;
                    } else {
                        buffer = buffer * 10 + put;
                    }
                    break;
                case Program.LOAD:
                    hand = seen(part, done, buffer, held);
                    break;
                case Program.RAISE:
                    hand = (hand + value) % 10;
                    break;
                case Program.TAKE:
                    held = 1;
                    break;
                case Program.SWAP:
                    hand = held == value / 10 ? 1 : 0;
                    held = hand == 1 ? value % 10 : held;
                    break;
                default:
                    break;
            }
            return withPart(withCell(place, cell, held), part, done + 1, hand, buffer);
        }

        /** What a LOAD behind so many STEPS of a PART takes: the latest of the BUFFER for its CELL, if there is one. */
        private int seen(int part, int done, int buffer, int held) {
            int cell = program.cells[program.indexOf(part, done)];
            int left = buffer;
            for (int back = done - 1; back >= 0 && left != EMPTY; back--) {
                int index = program.indexOf(part, back);
                if (Program.puts(program.kinds[index])) {
                    if (program.cells[index] == cell) {
                        return left % 10;
                    }
                    left /= 10;
                }
            }
            return held;
        }

        /** The PLACE behind a FLUSH of a PART; NONE, if its BUFFER is empty. */
        long flushed(long place, int part) {
            int buffer = bufferOf(place, part);
            if (buffer <= EMPTY) {
                return NONE;
            }
            int done = doneOf(place, part);
            long next = withPart(place, part, done, handOf(place, part), withoutOldest(buffer));
            return withCell(next, oldestCell(part, done, buffer), oldestValue(buffer));
        }

        /** What stands first in a BUFFER: the digit behind the 1. */
        private static int oldestValue(int buffer) {
            return (buffer >= 1000 ? buffer / 100 : buffer >= 100 ? buffer / 10 : buffer) % 10;
        }

        private static int withoutOldest(int buffer) {
            return buffer >= 1000 ? 100 + buffer % 100 : buffer >= 100 ? 10 + buffer % 10 : EMPTY;
        }

        /** The CELL that what stands first in a BUFFER goes to. */
        private int oldestCell(int part, int done, int buffer) {
            int left = buffer;
            int cell = 0;
            for (int back = done - 1; back >= 0 && left != EMPTY; back--) {
                int index = program.indexOf(part, back);
                if (Program.puts(program.kinds[index])) {
                    cell = program.cells[index];
                    left /= 10;
                }
            }
            return cell;
        }
    }

    /** Makes TAPES and TRIALS: things and calls by a SEED. */
    private static final class Maker {
        private static final int MAX_TRIES = 200;
        private static final int STALE = 1;
        private static final int LOST = 2;
        private static final int TWICE = 3;
        /** More MOVES than a RUN has: 9 STEPS and 9 FLUSHES. */
        private static final int MAX_MOVES = 18;

        private int seed = 0;
        private final int[] moves = new int[2 * Program.PARTS];
        /** What each THREAD's open CALL was ANSWERED; NONE, if it took no hold yet. */
        private final int[] held = new int[THREADS];
        private int holds = 0;
        private long state = 0;
        /** The STATE as it was ahead of the hold before. */
        private long earlier = 0;

        private int draw(int many) {
            seed = (seed * 77 + 31) % 4096;
            return many > 0 ? seed / 8 % many : 0;
        }

        void makeTape(History history, Runs runs, int model, int start) {
            seed = start;
            history.clear(true);
            for (int cell = 0; cell < CELLS; cell++) {
                history.addThing(Kinds.CELL);
            }
            long place = Runs.start();
            int many = takeMoves(runs, place, model);
            for (int count = 0; count < MAX_MOVES && many > 0; count++) {
                int move = moves[draw(many)];
                if (move < Program.PARTS) {
                    long next = runs.stepped(place, move, model);
                    tellStep(history, runs.program, move, place, next);
                    place = next;
                } else {
                    place = runs.flushed(place, move - Program.PARTS);
                }
                many = takeMoves(runs, place, model);
            }
        }

        /** Lists the MOVES that can be done: a PART for its next STEP, a PART + 3 for its FLUSH. */
        private int takeMoves(Runs runs, long place, int model) {
            int many = 0;
            for (int part = 0; part < Program.PARTS; part++) {
                if (runs.stepped(place, part, model) != NONE) {
                    moves[many] = part;
                    many++;
                }
            }
            for (int part = 0; part < Program.PARTS; part++) {
                if (runs.flushed(place, part) != NONE) {
                    moves[many] = part + Program.PARTS;
                    many++;
                }
            }
            return many;
        }

        private void tellStep(History history, Program program, int part, long place, long next) {
            int index = program.indexOf(part, Runs.doneOf(place, part));
            int cell = program.cells[index];
            int hand = Runs.handOf(next, part);
            switch (program.kinds[index]) {
                case Program.WRITE:
                    history.openAndClose(part, cell, 0, program.values[index], 0);
                    break;
                case Program.STORE:
                    history.openAndClose(part, cell, 0, hand, 0);
                    break;
                case Program.LOAD:
                    history.openAndClose(part, cell, 1, 0, hand);
                    break;
                case Program.TAKE:
                    history.openAndClose(part, cell, 2, 1, 1);
                    break;
                case Program.SWAP:
                    history.openAndClose(part, cell, 2, program.values[index], hand);
                    break;
                default:
                    break;
            }
        }

        void makeTrial(History history, int kind, int fault, int start) {
            seed = start;
            history.clear(true);
            history.addThing(kind);
            holds = 0;
            state = 0;
            earlier = 0;
            int ended = 0;
            for (int tries = 0; tries < MAX_TRIES && ended < MAX_CALLS; tries++) {
                int thread = draw(THREADS);
                int call = history.hangingOf(thread);
                if (call == NONE) {
                    beginOne(history, kind, thread);
                } else if (held[thread] == NONE) {
                    held[thread] = takeHold(history, call, fault);
                } else {
                    history.close(call, held[thread]);
                    ended++;
                }
            }
        }

        private void beginOne(History history, int kind, int thread) {
            if (history.calls >= MAX_CALLS) {
                return;
            }
            int op = draw(Kinds.countOps(kind));
            int lowest = Kinds.lowest(kind, op);
            int highest = Kinds.highest(kind, op);
            int value = highest == 0 ? 0 : lowest + draw(highest - lowest + 1);
            history.open(thread, 0, op, value);
            held[thread] = NONE;
        }

        /** Steps on the THING, with the FAULT at each third hold; tells the ANSWER. */
        private int takeHold(History history, int call, int fault) {
            holds++;
            long ahead = state;
            long told = actOn(history, call, ahead);
            int answer = Kinds.answerOf(told);
            state = Kinds.stateOf(told);
            if (holds % 3 == 0) {
                if (fault == STALE) {
                    answer = Kinds.answerOf(actOn(history, call, earlier));
                } else if (fault == LOST) {
                    state = ahead;
                } else if (fault == TWICE) {
                    state = Kinds.stateOf(actOn(history, call, state));
                }
            }
            earlier = ahead;
            return answer;
        }

        private static long actOn(History history, int call, long from) {
            return Kinds.act(history.kinds[0], history.ops[call], history.values[call], history.threads[call], from);
        }
    }

    /** The STORE: three COPIES, and the MESSAGES between them. */
    private static final class Store {
        static final int COPIES = 3;
        static final int MAX_MESSAGES = 8;

        final int[] values = new int[COPIES];
        final int[] counts = new int[COPIES];
        private final int[] origins = new int[COPIES];
        int size = 0;
        private final int[] targets = new int[MAX_MESSAGES];
        private final int[] sentValues = new int[MAX_MESSAGES];
        private final int[] sentCounts = new int[MAX_MESSAGES];
        private final int[] sentOrigins = new int[MAX_MESSAGES];
        private final int[] triedValues = new int[COPIES];
        private final int[] triedCounts = new int[COPIES];
        private final int[] triedOrigins = new int[COPIES];

        void put(int copy, int value) {
            values[copy] = value;
            counts[copy]++;
            origins[copy] = copy;
            for (int other = 0; other < COPIES; other++) {
                if (other != copy) {
                    send(other, value, counts[copy], copy);
                }
            }
        }

        private void send(int target, int value, int count, int origin) {
            if (size < MAX_MESSAGES) {
                targets[size] = target;
                sentValues[size] = value;
                sentCounts[size] = count;
                sentOrigins[size] = origin;
                size++;
            }
        }

        void doubleOne(int message) {
            send(targets[message], sentValues[message], sentCounts[message], sentOrigins[message]);
        }

        void drop(int message) {
            for (int place = message; place + 1 < size; place++) {
                targets[place] = targets[place + 1];
                sentValues[place] = sentValues[place + 1];
                sentCounts[place] = sentCounts[place + 1];
                sentOrigins[place] = sentOrigins[place + 1];
            }
            size--;
        }

        /** Delivers a MESSAGE; tells whether its VALUE and STAMP were taken. */
        boolean bring(int message) {
            boolean isTaken = adopt(message, values, counts, origins);
            drop(message);
            return isTaken;
        }

        /** Gives a MESSAGE to what its COPY holds in these rows, if its STAMP is later. */
        private boolean adopt(int message, int[] held, int[] heldCounts, int[] heldOrigins) {
            int copy = targets[message];
            int count = sentCounts[message];
            int origin = sentOrigins[message];
            boolean isLater = count > heldCounts[copy] || count == heldCounts[copy] && origin > heldOrigins[copy];
            if (isLater) {
                held[copy] = sentValues[message];
                heldCounts[copy] = count;
                heldOrigins[copy] = origin;
            }
            return isLater;
        }

        int partOfCopy(int copy, int what) {
            return what == 0 ? values[copy] : what == 1 ? counts[copy] : origins[copy];
        }

        int partOfMessage(int message, int what) {
            switch (what) {
                case 0: return targets[message];
                case 1: return sentValues[message];
                case 2: return sentCounts[message];
                default: return sentOrigins[message];
            }
        }

        int countSpread() {
            for (int copy = 0; copy < COPIES; copy++) {
                triedValues[copy] = values[copy];
                triedCounts[copy] = counts[copy];
                triedOrigins[copy] = origins[copy];
            }
            for (int message = 0; message < size; message++) {
                adopt(message, triedValues, triedCounts, triedOrigins);
            }
            int unlike = 0;
            for (int copy = 0; copy < COPIES; copy++) {
                boolean isNew = true;
                for (int other = 0; other < copy; other++) {
                    isNew = isNew && triedValues[other] != triedValues[copy];
                }
                unlike += isNew ? 1 : 0;
            }
            return unlike;
        }
    }
}
