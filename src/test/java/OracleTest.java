import java.util.ArrayDeque;
import java.util.ArrayList;
import java.util.Arrays;
import java.util.Deque;
import java.util.HashMap;
import java.util.HashSet;
import java.util.List;
import java.util.Map;
import java.util.Random;
import java.util.Set;
import java.util.TreeSet;
import java.util.concurrent.Callable;

/**
 * Makes random calls on a Callorder and on a slow bench, which is written from the document's words alone with
 * other means (lists, every order tried, runs as texts), and compares all that both answer or throw.
 * With an argument: that many benches (default 400).
 */
public final class OracleTest {
    private static int wrong = 0;
    private static int compared = 0;
    private static final int[] asked = new int[54];
    /** How often each reason of a FAST way was told, by KIND; the first one tells that it fits. */
    private static final int[][] reasons = new int[4][6];

    public static void main(String[] args) {
        int many = args.length > 0 ? Integer.parseInt(args[0]) : 400;
        int from = args.length > 1 ? Integer.parseInt(args[1]) : 0;
        for (int seed = from; seed < from + many && wrong < 20; seed++) {
            new Pair(seed).go();
        }
        int left = 0;
        for (int promise = 2; promise <= 53; promise++) {
            if (asked[promise] == 0) {
                left++;
                System.out.println("promise " + promise + " was never compared");
            }
        }
        System.out.println("OracleTest: reasons told of registers " + Arrays.toString(reasons[0]) + ", of queues "
                + Arrays.toString(reasons[1]) + ", of sets " + Arrays.toString(reasons[3]));
        System.out.println("OracleTest: " + compared + " answers compared, " + wrong + " differ");
        if (wrong > 0 || left > 0) {
            System.exit(1);
        }
    }

    private static Object answer(Callable<Object> call) {
        try {
            return call.call();
        } catch (Exception e) {
            return "throws " + e.getClass().getName();
        }
    }

    /** A bench and its slow twin. */
    private static final class Pair {
        private final Random random;
        private final int seed;
        private final Callorder bench = new Callorder();
        private final SlowBench slow = new SlowBench();
        private final StringBuilder told = new StringBuilder();
        /** The least of the four VALUES that are given most. */
        private final int window;

        Pair(int seed) {
            this.seed = seed;
            random = new Random(seed * 7919L + 17);
            window = 1 + random.nextInt(6);
        }

        private int among(int n) {
            return random.nextInt(n);
        }

        /** Mostly what may be, now and then something beside it. */
        private int near(int low, int high) {
            int dice = among(40);
            if (dice == 0) {
                return low - 1;
            }
            if (dice == 1) {
                return high + 1;
            }
            if (dice == 2 && among(4) == 0) {
                return among(2) == 0 ? Integer.MIN_VALUE : Integer.MAX_VALUE;
            }
            return high < low ? low : low + among(high - low + 1);
        }

        private void same(int promise, String call, Callable<Object> one, Callable<Object> other) {
            asked[promise]++;
            compared++;
            told.append(call).append("; ");
            Object got = answer(one);
            Object due = answer(other);
            if (!got.equals(due)) {
                wrong++;
                System.out.println("bench " + seed + ": " + call + " answered " + got + ", slowly " + due);
                System.out.println("   behind: " + told);
            }
        }

        void go() {
            int style = among(7);
            if (style >= 5) {
                fastHistory(style == 5 ? 0 : 1);
                askAll();
                return;
            }
            int rounds = 60 + among(60);
            for (int round = 0; round < rounds && wrong < 20; round++) {
                change(style);
                if (among(6) == 0) {
                    ask();
                }
            }
            askAll();
        }

        /** Overlapping calls on a REGISTER or QUEUE, no VALUE given twice, mostly with values that were given as answers. */
        private void fastHistory(int kind) {
            same(2, "thing(" + kind + ")", () -> bench.thing(kind), () -> slow.thing(kind));
            List<Integer> values = new ArrayList<>(List.of(1, 2, 3, 4, 5, 6, 7, 8, 9));
            java.util.Collections.shuffle(values, random);
            int unlike = 2 + among(3);
            for (int time = 0; time < 18 + among(6); time++) {
                int thread = among(3);
                if (slow.openOf(thread) == null) {
                    int op = among(5) < 3 ? 1 : 0;
                    int value = op == 0 ? values.remove(0) : 0;
                    if (values.isEmpty()) {
                        return;
                    }
                    same(3, "begin(" + thread + ",0," + op + "," + value + ")", () -> bench.begin(thread, 0, op, value),
                            () -> slow.begin(thread, 0, op, value));
                } else {
                    SlowCall open = slow.openOf(thread);
                    List<Integer> given = new ArrayList<>(List.of(0, 0));
                    for (SlowCall c : slow.calls) {
                        if (c.op == 0) {
                            given.add(c.value);
                        }
                    }
                    int answer = among(25) == 0 ? near(0, 99) : open.op == 0 ? 0
                            : among(unlike) > 0 ? likely(0, 1, 0, thread) : given.get(among(given.size()));
                    same(4, "end(" + thread + "," + answer + ")", () -> bench.end(thread, answer), () -> slow.end(thread, answer));
                }
            }
            for (int thread = 0; thread < 3; thread++) {
                int t = thread;
                same(4, "end(" + t + ",0)", () -> bench.end(t, 0), () -> slow.end(t, 0));
            }
        }

        private void change(int style) {
            int dice = among(100);
            if (style == 4 || dice < 12) {
                changeProgram();
                if (style == 4 && among(4) > 0) {
                    return;
                }
            }
            if (dice < 20 && (slow.kinds.size() < 1 + among(4))) {
                int kind = near(0, 6);
                if (style == 2 && among(3) > 0) {
                    kind = 0;
                }
                int k = kind;
                same(2, "thing(" + k + ")", () -> bench.thing(k), () -> slow.thing(k));
            } else if (dice < 26 && among(3) == 0) {
                int call = near(0, slow.calls.size() - 1);
                same(7, "forget(" + call + ")", () -> bench.forget(call), () -> slow.forget(call));
            } else if (dice < 28 && among(4) == 0) {
                boolean isAll = among(2) == 0;
                same(8, "wipe(" + isAll + ")", () -> bench.wipe(isAll), () -> slow.wipe(isAll));
            } else if (dice < 32) {
                int call = near(0, slow.calls.size() - 1);
                int answer = among(3) > 0 ? near(0, 9) : near(0, 99);
                same(6, "retell(" + call + "," + answer + ")", () -> bench.retell(call, answer), () -> slow.retell(call, answer));
            } else if (dice < 35 && style != 0) {
                changeByMaker();
            } else if (style == 2 || dice < 45) {
                changeStore();
            } else {
                changeCalls();
            }
        }

        private void changeByMaker() {
            if (among(2) == 0) {
                int model = near(0, 1);
                int s = near(0, 4095);
                same(9, "tape(" + model + "," + s + ")", () -> bench.tape(model, s), () -> slow.tape(model, s));
            } else {
                int kind = near(0, 6);
                int fault = near(0, 3);
                int s = near(0, 4095);
                same(10, "trial(" + kind + "," + fault + "," + s + ")", () -> bench.trial(kind, fault, s), () -> slow.trial(kind, fault, s));
            }
        }

        private void changeProgram() {
            int part = near(0, 2);
            if (among(8) == 0) {
                same(39, "unstep(" + part + ")", () -> bench.unstep(part), () -> slow.unstep(part));
                return;
            }
            int kind = among(3) > 0 ? among(3) : near(0, 6);
            int cell = kind == 3 || kind == 4 ? near(0, 0) : near(0, among(2) == 0 ? 1 : 2);
            int value = kind == 0 ? near(0, 9) : kind == 3 ? near(1, 9) : kind == 6 ? (among(2) == 0 ? among(4) : near(0, 99)) : near(0, 0);
            same(38, "step(" + part + "," + kind + "," + cell + "," + value + ")", () -> bench.step(part, kind, cell, value),
                    () -> slow.step(part, kind, cell, value));
        }

        private void changeStore() {
            int dice = among(10);
            int copy = near(0, 2);
            int message = near(0, slow.messages.size() - 1);
            if (dice < 3) {
                int value = near(1, 9);
                same(11, "write(" + copy + "," + value + ")", () -> bench.write(copy, value), () -> slow.write(copy, value));
            } else if (dice < 5) {
                same(12, "read(" + copy + ")", () -> bench.read(copy), () -> slow.read(copy));
            } else if (dice < 8) {
                same(13, "deliver(" + message + ")", () -> bench.deliver(message), () -> slow.deliver(message));
            } else if (dice < 9) {
                same(14, "lose(" + message + ")", () -> bench.lose(message), () -> slow.lose(message));
            } else {
                same(15, "repeat(" + message + ")", () -> bench.repeat(message), () -> slow.repeat(message));
            }
        }

        /** An answer that the thing may well give, were its calls done as they ended. */
        private int likely(int thing, int op, int value, int thread) {
            if (among(7) == 0 || thing < 0 || thing >= slow.kinds.size()) {
                return among(3) == 0 ? near(0, 99) : near(0, 9);
            }
            SlowThing there = new SlowThing(slow.kinds.get(thing));
            List<SlowCall> done = new ArrayList<>();
            for (SlowCall c : slow.calls) {
                if (c.thing == thing && (c.end >= 0 || among(4) == 0)) {
                    done.add(c);
                }
            }
            if (among(2) == 0) {
                done.sort((a, b) -> Integer.compare(a.end, b.end));
            }
            for (SlowCall c : done) {
                there.act(c.op, c.value, c.thread);
            }
            return there.act(op, value, thread);
        }

        private void changeCalls() {
            int thread = near(0, 2);
            SlowCall open = null;
            for (SlowCall c : slow.calls) {
                if (c.thread == thread && c.end < 0) {
                    open = c;
                }
            }
            if (open != null && among(10) > 0) {
                int answer = likely(open.thing, open.op, open.value, thread);
                same(4, "end(" + thread + "," + answer + ")", () -> bench.end(thread, answer), () -> slow.end(thread, answer));
                return;
            }
            int thing = near(0, slow.kinds.size() - 1);
            int kind = thing >= 0 && thing < slow.kinds.size() ? slow.kinds.get(thing) : 0;
            int op = near(0, SlowThing.ops(kind) - 1);
            int value = near(SlowThing.least(kind, op), SlowThing.most(kind, op));
            if (SlowThing.most(kind, op) > 3 && among(2) == 0) {
                value = window + among(4);
            }
            int v = value;
            if (among(4) > 0) {
                same(3, "begin(" + thread + "," + thing + "," + op + "," + v + ")", () -> bench.begin(thread, thing, op, v),
                        () -> slow.begin(thread, thing, op, v));
            } else {
                int answer = op < 0 || op >= SlowThing.ops(kind) ? 0 : likely(thing, op, v, thread);
                same(5, "call(" + thread + "," + thing + "," + op + "," + v + "," + answer + ")",
                        () -> bench.call(thread, thing, op, v, answer), () -> slow.call(thread, thing, op, v, answer));
            }
        }

        private void ask() {
            int part = near(-1, slow.kinds.size() - 1);
            int thing = near(0, slow.kinds.size() - 1);
            int call = near(0, slow.calls.size() - 1);
            int other = near(0, slow.calls.size() - 1);
            int answer = near(0, 99) % 12;
            int many = near(0, 9);
            int model = near(0, 1);
            switch (among(14)) {
                case 0: same(27, "fits(" + part + ")", () -> bench.fits(part), () -> slow.fits(part)); break;
                case 1: same(28, "first(" + part + ")", () -> bench.first(part), () -> slow.first(part)); break;
                case 2: same(31, "behind(" + thing + "," + many + ")", () -> bench.behind(thing, many), () -> slow.behind(thing, many)); break;
                case 3: same(32, "wouldFit(" + call + "," + answer + ")", () -> bench.wouldFit(call, answer), () -> slow.wouldFit(call, answer)); break;
                case 4: same(33, "core(" + part + ")", () -> bench.core(part), () -> slow.core(part)); break;
                case 5: same(34, "fast(" + thing + ")", () -> bench.fast(thing), () -> slow.fast(thing)); break;
                case 6: same(23, "isCause(" + call + "," + other + ")", () -> bench.isCause(call, other), () -> slow.isCause(call, other)); break;
                case 7: same(24, "clock(" + call + ")", () -> bench.clock(call), () -> slow.clock(call)); break;
                case 8: same(29, "orders(" + part + ")", () -> bench.orders(part), () -> slow.orders(part)); break;
                case 9: same(37, "promises()", () -> bench.promises(), () -> slow.promises()); break;
                case 10: same(51, "knock()", () -> bench.knock(), () -> slow.knock()); break;
                case 11: same(44, "can(" + model + ",..)", () -> bench.can(model, 110010), () -> slow.can(model, 110010)); break;
                case 12: askFound(); break;
                default: same(53, "digest()", () -> bench.digest(), () -> slow.digest()); break;
            }
        }

        private void askFound() {
            int kind = near(0, 6);
            int fault = near(0, 3);
            int many = near(1, 8);
            same(50, "found(" + kind + "," + fault + "," + many + ")", () -> bench.found(kind, fault, many), () -> slow.found(kind, fault, many));
        }

        private void askAll() {
            int calls = slow.calls.size();
            int things = slow.kinds.size();
            for (int w = -1; w <= 6; w++) {
                int what = w;
                same(21, "bench(" + what + ")", () -> bench.bench(what), () -> slow.bench(what));
            }
            for (int c = -1; c <= calls; c++) {
                askCall(c, calls);
            }
            for (int t = -1; t <= 3; t++) {
                int thread = t;
                same(26, "drawn(" + thread + ")", () -> bench.drawn(thread), () -> slow.drawn(thread));
            }
            for (int t = -2; t <= things; t++) {
                int part = t;
                same(19, "kindOf(" + part + ")", () -> bench.kindOf(part), () -> slow.kindOf(part));
                same(27, "fits(" + part + ")", () -> bench.fits(part), () -> slow.fits(part));
                same(28, "first(" + part + ")", () -> bench.first(part), () -> slow.first(part));
                same(29, "orders(" + part + ")", () -> bench.orders(part), () -> slow.orders(part));
                same(33, "core(" + part + ")", () -> bench.core(part), () -> slow.core(part));
                same(34, "fast(" + part + ")", () -> bench.fast(part), () -> slow.fast(part));
                if (part >= 0 && part < things && slow.fast(part) >= 0) {
                    reasons[slow.kindOf(part)][Math.max(0, slow.why(part, 0))]++;
                }
                for (int w = -1; w <= 3; w++) {
                    int what = w;
                    same(35, "why(" + part + "," + what + ")", () -> bench.why(part, what), () -> slow.why(part, what));
                }
                for (int m = -1; m <= 10; m++) {
                    int many = m;
                    same(31, "behind(" + part + "," + many + ")", () -> bench.behind(part, many), () -> slow.behind(part, many));
                }
            }
            same(30, "joined()", () -> bench.joined(), () -> slow.joined());
            for (int w = -1; w <= 4; w++) {
                int which = w;
                same(36, "promise(" + which + ")", () -> bench.promise(which), () -> slow.promise(which));
            }
            same(37, "promises()", () -> bench.promises(), () -> slow.promises());
            askStore();
            askProgram();
            same(52, "isSound()", () -> bench.isSound(), () -> slow.isSound());
            same(53, "digest()", () -> bench.digest(), () -> slow.digest());
            same(51, "knock()", () -> bench.knock(), () -> slow.knock());
        }

        private void askCall(int c, int calls) {
            int call = c;
            for (int w = -1; w <= 7; w++) {
                int what = w;
                same(20, "ofCall(" + call + "," + what + ")", () -> bench.ofCall(call, what), () -> slow.ofCall(call, what));
            }
            for (int o = -1; o <= calls; o++) {
                int other = o;
                same(22, "isAhead(" + call + "," + other + ")", () -> bench.isAhead(call, other), () -> slow.isAhead(call, other));
                same(23, "isCause(" + call + "," + other + ")", () -> bench.isCause(call, other), () -> slow.isCause(call, other));
            }
            same(24, "clock(" + call + ")", () -> bench.clock(call), () -> slow.clock(call));
            same(25, "text(" + call + ")", () -> bench.text(call), () -> slow.text(call));
            for (int a = -1; a <= 10; a += 3) {
                int answer = a;
                same(32, "wouldFit(" + call + "," + answer + ")", () -> bench.wouldFit(call, answer), () -> slow.wouldFit(call, answer));
            }
        }

        private void askStore() {
            for (int c = -1; c <= 3; c++) {
                for (int w = -1; w <= 3; w++) {
                    int copy = c;
                    int what = w;
                    same(16, "ofCopy(" + copy + "," + what + ")", () -> bench.ofCopy(copy, what), () -> slow.ofCopy(copy, what));
                }
            }
            for (int m = -1; m <= slow.messages.size(); m++) {
                for (int w = -1; w <= 4; w++) {
                    int message = m;
                    int what = w;
                    same(17, "ofMessage(" + message + "," + what + ")", () -> bench.ofMessage(message, what), () -> slow.ofMessage(message, what));
                }
            }
            same(18, "spread()", () -> bench.spread(), () -> slow.spread());
        }

        private void askProgram() {
            for (int p = -1; p <= 3; p++) {
                int part = p;
                same(40, "steps(" + part + ")", () -> bench.steps(part), () -> slow.steps(part));
                for (int q = -1; q <= 3; q++) {
                    for (int w = -1; w <= 3; w++) {
                        int place = q;
                        int what = w;
                        same(41, "ofStep(" + part + "," + place + "," + what + ")", () -> bench.ofStep(part, place, what),
                                () -> slow.ofStep(part, place, what));
                    }
                }
            }
            for (int m = -1; m <= 2; m++) {
                int model = m;
                same(42, "outcomes(" + model + ")", () -> bench.outcomes(model), () -> slow.outcomes(model));
                same(45, "stuck(" + model + ")", () -> bench.stuck(model), () -> slow.stuck(model));
                same(46, "places(" + model + ")", () -> bench.places(model), () -> slow.places(model));
                same(47, "runs(" + model + ")", () -> bench.runs(model), () -> slow.runs(model));
                int last = model == 0 || model == 1 ? slow.outcomes(model) : 2;
                for (int q = -1; q <= last; q++) {
                    int place = q;
                    same(43, "outcome(" + model + "," + place + ")", () -> bench.outcome(model, place), () -> slow.outcome(model, place));
                    Object end = answer(() -> slow.outcome(model, place));
                    if (end instanceof Integer) {
                        int outcome = (Integer) end;
                        same(44, "can(" + model + "," + outcome + ")", () -> bench.can(model, outcome), () -> slow.can(model, outcome));
                        same(44, "can(" + model + "," + (outcome + 1) + ")", () -> bench.can(model, outcome + 1), () -> slow.can(model, outcome + 1));
                    }
                }
            }
            same(48, "unlike()", () -> bench.unlike(), () -> slow.unlike());
            same(49, "fenced()", () -> bench.fenced(), () -> slow.fenced());
        }
    }

    // ------------------------------------------------------------------------------------------------
    // the slow bench

    static final class SlowCall {
        int thread;
        int thing;
        int op;
        int value;
        int begin;
        int end = -1;
        int answer = -1;
    }

    static final class SlowThing {
        final int kind;
        int number = 0;
        int owner = -1;
        final Deque<Integer> row = new ArrayDeque<>();
        final TreeSet<Integer> within = new TreeSet<>();

        SlowThing(int kind) {
            this.kind = kind;
        }

        SlowThing copy() {
            SlowThing other = new SlowThing(kind);
            other.number = number;
            other.owner = owner;
            other.row.addAll(row);
            other.within.addAll(within);
            return other;
        }

        static int ops(int kind) {
            return new int[] {2, 2, 2, 3, 2, 2, 3}[kind];
        }

        static int least(int kind, int op) {
            int[][] table = {{1, 0}, {1, 0}, {1, 0}, {1, 1, 1}, {1, 0}, {0, 0}, {0, 0, 0}};
            return op < 0 || op >= ops(kind) ? 0 : table[kind][op];
        }

        static int most(int kind, int op) {
            int[][] table = {{9, 0}, {9, 0}, {9, 0}, {9, 9, 9}, {9, 0}, {0, 0}, {9, 0, 99}};
            return op < 0 || op >= ops(kind) ? 0 : table[kind][op];
        }

        static boolean changes(int kind, int op) {
            String name = opName(kind, op);
            return !name.equals("READ") && !name.equals("HAS");
        }

        static String opName(int kind, int op) {
            String[][] names = {{"WRITE", "READ"}, {"PUT", "TAKE"}, {"PUT", "TAKE"}, {"ADD", "REMOVE", "HAS"},
                {"ADD", "READ"}, {"TAKE", "FREE"}, {"WRITE", "READ", "SWAP"}};
            return names[kind][op];
        }

        static String kindName(int kind) {
            return new String[] {"REGISTER", "QUEUE", "STACK", "SET", "COUNTER", "LOCK", "CELL"}[kind];
        }

        int act(int op, int value, int thread) {
            switch (kindName(kind) + "." + opName(kind, op)) {
                case "REGISTER.WRITE":
                case "CELL.WRITE": number = value; return 0;
                case "REGISTER.READ":
                case "COUNTER.READ":
                case "CELL.READ": return number;
                case "QUEUE.PUT":
                case "STACK.PUT": row.addLast(value); return 0;
                case "QUEUE.TAKE": return row.isEmpty() ? 0 : row.removeFirst();
                case "STACK.TAKE": return row.isEmpty() ? 0 : row.removeLast();
                case "SET.ADD": return within.add(value) ? 1 : 0;
                case "SET.REMOVE": return within.remove(value) ? 1 : 0;
                case "SET.HAS": return within.contains(value) ? 1 : 0;
                case "COUNTER.ADD": number = (number + value) % 100; return number;
                case "LOCK.TAKE":
                    if (owner < 0) {
                        owner = thread;
                        return 1;
                    }
                    return 0;
                case "LOCK.FREE":
                    if (owner == thread) {
                        owner = -1;
                        return 1;
                    }
                    return 0;
                default:
                    if (number == value / 10) {
                        number = value % 10;
                        return 1;
                    }
                    return 0;
            }
        }

        private static String join(Iterable<Integer> values) {
            List<String> texts = new ArrayList<>();
            for (int value : values) {
                texts.add(Integer.toString(value));
            }
            return String.join(" ", texts);
        }

        String state() {
            switch (kind) {
                case 1:
                case 2: return join(row);
                case 3: return join(within);
                case 5: return owner < 0 ? "free" : "T" + owner;
                default: return Integer.toString(number);
            }
        }
    }

    static final class SlowBench {
        final List<Integer> kinds = new ArrayList<>();
        final List<SlowCall> calls = new ArrayList<>();
        int moments = 0;
        int knocks = 0;
        final List<List<int[]>> program = new ArrayList<>();
        final int[][] copies = new int[3][3];
        final List<int[]> messages = new ArrayList<>();

        SlowBench() {
            for (int part = 0; part < 3; part++) {
                program.add(new ArrayList<>());
            }
        }

        private static void index(boolean isRight) {
            if (!isRight) {
                throw new IndexOutOfBoundsException();
            }
        }

        private static void argument(boolean isRight) {
            if (!isRight) {
                throw new IllegalArgumentException();
            }
        }

        private static void state(boolean isRight) {
            if (!isRight) {
                throw new IllegalStateException();
            }
        }

        private static boolean in(int number, int low, int high) {
            return low <= number && number <= high;
        }

        int thing(int kind) {
            argument(in(kind, 0, 6));
            state(kinds.size() < 4);
            kinds.add(kind);
            return kinds.size() - 1;
        }

        private SlowCall openOf(int thread) {
            for (SlowCall c : calls) {
                if (c.thread == thread && c.end < 0) {
                    return c;
                }
            }
            return null;
        }

        private void opRight(int thing, int op, int value) {
            int kind = kinds.get(thing);
            argument(in(op, 0, SlowThing.ops(kind) - 1));
            argument(in(value, SlowThing.least(kind, op), SlowThing.most(kind, op)));
        }

        private SlowCall started(int thread, int thing, int op, int value) {
            SlowCall c = new SlowCall();
            c.thread = thread;
            c.thing = thing;
            c.op = op;
            c.value = value;
            c.begin = moments++;
            calls.add(c);
            return c;
        }

        private void ended(SlowCall c, int answer) {
            c.end = moments++;
            c.answer = answer;
        }

        int begin(int thread, int thing, int op, int value) {
            index(in(thread, 0, 2) && in(thing, 0, kinds.size() - 1));
            opRight(thing, op, value);
            state(openOf(thread) == null && calls.size() < 9);
            started(thread, thing, op, value);
            return calls.size() - 1;
        }

        int end(int thread, int answer) {
            index(in(thread, 0, 2));
            argument(in(answer, 0, 99));
            SlowCall c = openOf(thread);
            state(c != null);
            ended(c, answer);
            return calls.indexOf(c);
        }

        int call(int thread, int thing, int op, int value, int answer) {
            index(in(thread, 0, 2) && in(thing, 0, kinds.size() - 1));
            opRight(thing, op, value);
            argument(in(answer, 0, 99));
            state(openOf(thread) == null && calls.size() < 9);
            ended(started(thread, thing, op, value), answer);
            return calls.size() - 1;
        }

        private SlowCall callRight(int call) {
            index(in(call, 0, calls.size() - 1));
            return calls.get(call);
        }

        int retell(int call, int answer) {
            SlowCall c = callRight(call);
            argument(in(answer, 0, 99));
            state(c.end >= 0);
            int before = c.answer;
            c.answer = answer;
            return before;
        }

        int forget(int call) {
            callRight(call);
            calls.remove(call);
            return calls.size();
        }

        int wipe(boolean isAll) {
            int gone = calls.size();
            calls.clear();
            moments = 0;
            if (isAll) {
                kinds.clear();
            }
            return gone;
        }

        // ---- tapes and trials

        private int drawSeed;

        private int drawn(int among, boolean isNumber) {
            drawSeed = (drawSeed * 77 + 31) % 4096;
            return drawSeed / 8 % among;
        }

        int tape(int model, int seed) {
            argument(in(model, 0, 1));
            argument(in(seed, 0, 4095));
            wipe(true);
            for (int cell = 0; cell < 3; cell++) {
                kinds.add(6);
            }
            drawSeed = seed;
            SlowRun run = new SlowRun(program, model);
            while (true) {
                List<Integer> moves = run.moves();
                if (moves.isEmpty()) {
                    return calls.size();
                }
                int move = moves.get(drawn(moves.size(), true));
                if (move < 3) {
                    int[] step = program.get(move).get(run.done[move]);
                    int handBefore = run.hand[move];
                    run.move(move);
                    int hand = run.hand[move];
                    switch (step[0]) {
                        case 0: ended(started(move, step[1], 0, step[2]), 0); break;
                        case 1: ended(started(move, step[1], 1, 0), hand); break;
                        case 2: ended(started(move, step[1], 0, handBefore), 0); break;
                        case 5: ended(started(move, step[1], 2, 1), 1); break;
                        case 6: ended(started(move, step[1], 2, step[2]), hand); break;
                        default: break;
                    }
                } else {
                    run.move(move);
                }
            }
        }

        int trial(int kind, int fault, int seed) {
            argument(in(kind, 0, 6));
            argument(in(fault, 0, 3));
            argument(in(seed, 0, 4095));
            wipe(true);
            kinds.add(kind);
            drawSeed = seed;
            SlowThing there = new SlowThing(kind);
            SlowThing aheadOfBefore = null;
            Map<SlowCall, Integer> took = new HashMap<>();
            int holds = 0;
            for (int time = 0; time < 200; time++) {
                int ended = 0;
                for (SlowCall c : calls) {
                    ended += c.end >= 0 ? 1 : 0;
                }
                if (ended == 9) {
                    break;
                }
                int thread = drawn(3, true);
                SlowCall open = openOf(thread);
                if (open == null) {
                    if (calls.size() < 9) {
                        int op = drawn(SlowThing.ops(kind), true);
                        int least = SlowThing.least(kind, op);
                        int most = SlowThing.most(kind, op);
                        int value = most == 0 ? 0 : least + drawn(most - least + 1, true);
                        started(thread, 0, op, value);
                    }
                } else if (!took.containsKey(open)) {
                    holds++;
                    SlowThing ahead = there.copy();
                    boolean isFaulty = holds % 3 == 0;
                    int answer = there.act(open.op, open.value, thread);
                    if (isFaulty && fault == 1) {
                        answer = aheadOfBefore.copy().act(open.op, open.value, thread);
                    }
                    if (isFaulty && fault == 2) {
                        there = ahead.copy();
                    }
                    if (isFaulty && fault == 3) {
                        there.act(open.op, open.value, thread);
                    }
                    took.put(open, answer);
                    aheadOfBefore = ahead;
                } else {
                    ended(open, took.get(open));
                }
            }
            int hang = 0;
            for (SlowCall c : calls) {
                hang += c.end < 0 ? 1 : 0;
            }
            return hang;
        }

        int found(int kind, int fault, int many) {
            argument(in(kind, 0, 6));
            argument(in(fault, 0, 3));
            argument(in(many, 1, 8));
            int bad = 0;
            for (int seed = 0; seed < many; seed++) {
                SlowBench other = new SlowBench();
                other.trial(kind, fault, seed);
                bad += other.fits(-1) ? 0 : 1;
            }
            return bad;
        }

        // ---- the store

        private void storeRight(int copy) {
            state(!kinds.isEmpty() && kinds.get(0) == 0);
            state(openOf(copy) == null);
            state(calls.size() < 9);
        }

        int write(int copy, int value) {
            index(in(copy, 0, 2));
            argument(in(value, 1, 9));
            storeRight(copy);
            state(messages.size() <= 6);
            copies[copy] = new int[] {value, copies[copy][1] + 1, copy};
            for (int other = 0; other < 3; other++) {
                if (other != copy) {
                    messages.add(new int[] {other, value, copies[copy][1], copy});
                }
            }
            ended(started(copy, 0, 0, value), 0);
            return copies[copy][1];
        }

        int read(int copy) {
            index(in(copy, 0, 2));
            storeRight(copy);
            ended(started(copy, 0, 1, 0), copies[copy][0]);
            return copies[copy][0];
        }

        private static boolean arrive(int[][] there, int[] message) {
            int[] old = there[message[0]];
            boolean isLater = message[2] * 10 + message[3] > old[1] * 10 + old[2];
            if (isLater) {
                there[message[0]] = new int[] {message[1], message[2], message[3]};
            }
            return isLater;
        }

        boolean deliver(int message) {
            index(in(message, 0, messages.size() - 1));
            return arrive(copies, messages.remove(message));
        }

        int lose(int message) {
            index(in(message, 0, messages.size() - 1));
            messages.remove(message);
            return messages.size();
        }

        int repeat(int message) {
            index(in(message, 0, messages.size() - 1));
            state(messages.size() < 8);
            messages.add(messages.get(message));
            return messages.size();
        }

        int ofCopy(int copy, int what) {
            index(in(copy, 0, 2));
            argument(in(what, 0, 2));
            return copies[copy][what];
        }

        int ofMessage(int message, int what) {
            index(in(message, 0, messages.size() - 1));
            argument(in(what, 0, 3));
            return messages.get(message)[what];
        }

        int spread() {
            int[][] there = copies.clone();
            for (int[] message : messages) {
                arrive(there, message);
            }
            Set<Integer> values = new HashSet<>();
            for (int[] copy : there) {
                values.add(copy[0]);
            }
            return values.size();
        }

        // ---- what is asked of calls

        int kindOf(int thing) {
            index(in(thing, 0, kinds.size() - 1));
            return kinds.get(thing);
        }

        int ofCall(int call, int what) {
            SlowCall c = callRight(call);
            argument(in(what, 0, 6));
            return new int[] {c.thread, c.thing, c.op, c.value, c.begin, c.end, c.answer}[what];
        }

        int bench(int what) {
            argument(in(what, 0, 5));
            int hang = 0;
            for (SlowCall c : calls) {
                hang += c.end < 0 ? 1 : 0;
            }
            return new int[] {kinds.size(), calls.size(), hang, moments, messages.size(), knocks}[what];
        }

        private static boolean ahead(SlowCall one, SlowCall other) {
            return one.end >= 0 && one.end < other.begin;
        }

        boolean isAhead(int one, int other) {
            return ahead(callRight(one), callRight(other));
        }

        private boolean[][] causes() {
            int n = calls.size();
            boolean[][] is = new boolean[n][n];
            for (int i = 0; i < n; i++) {
                for (int j = 0; j < n; j++) {
                    SlowCall a = calls.get(i);
                    SlowCall b = calls.get(j);
                    is[i][j] = a.thread == b.thread && i < j;
                    if (a.thing == b.thing && kinds.get(a.thing) <= 2 && a.op == 0 && b.op == 1 && b.end >= 0
                            && b.answer == a.value) {
                        int same = 0;
                        for (SlowCall c : calls) {
                            same += c.thing == a.thing && c.op == 0 && c.value == a.value ? 1 : 0;
                        }
                        is[i][j] |= same == 1;
                    }
                }
            }
            for (int round = 0; round < n; round++) {
                for (int i = 0; i < n; i++) {
                    for (int j = 0; j < n; j++) {
                        for (int k = 0; k < n; k++) {
                            is[i][j] |= is[i][k] && is[k][j];
                        }
                    }
                }
            }
            return is;
        }

        boolean isCause(int one, int other) {
            callRight(one);
            callRight(other);
            return causes()[one][other];
        }

        String clock(int call) {
            callRight(call);
            int[] many = new int[3];
            for (int other = 0; other < calls.size(); other++) {
                if (other == call || causes()[other][call]) {
                    many[calls.get(other).thread]++;
                }
            }
            return many[0] + "," + many[1] + "," + many[2];
        }

        String text(int call) {
            SlowCall c = callRight(call);
            int kind = kinds.get(c.thing);
            String value = SlowThing.most(kind, c.op) == 0 ? "" : Integer.toString(c.value);
            return "T" + c.thread + " " + SlowThing.kindName(kind) + c.thing + "." + SlowThing.opName(kind, c.op)
                    + "(" + value + ") = " + (c.end < 0 ? "?" : Integer.toString(c.answer));
        }

        String drawn(int thread) {
            index(in(thread, 0, 2));
            char[] signs = new char[moments];
            Arrays.fill(signs, '.');
            for (SlowCall c : calls) {
                if (c.thread == thread) {
                    int last = c.end < 0 ? moments : c.end;
                    for (int m = c.begin; m < last; m++) {
                        signs[m] = '-';
                    }
                    signs[c.begin] = '[';
                    if (c.end >= 0) {
                        signs[c.end] = ']';
                    }
                }
            }
            return new String(signs);
        }

        // ---- orders

        private List<Integer> part(int part) {
            List<Integer> members = new ArrayList<>();
            for (int i = 0; i < calls.size(); i++) {
                if (part == -1 || calls.get(i).thing == part) {
                    members.add(i);
                }
            }
            return members;
        }

        private void partRight(int part) {
            index(in(part, -1, kinds.size() - 1));
        }

        /** All orders there are of these calls, the smallest first, as far as so many. */
        private final class Looker {
            final List<Integer> members;
            final Set<Integer> mute;
            final boolean isTimed;
            final int most;
            final List<List<Integer>> found = new ArrayList<>();

            Looker(List<Integer> members, Set<Integer> mute, boolean isTimed, int most) {
                this.members = members;
                this.mute = mute;
                this.isTimed = isTimed;
                this.most = most;
                look(new ArrayList<>(), freshThings());
            }

            private List<SlowThing> freshThings() {
                List<SlowThing> things = new ArrayList<>();
                for (int kind : kinds) {
                    things.add(new SlowThing(kind));
                }
                return things;
            }

            private boolean mustBeAhead(int one, int other) {
                SlowCall a = calls.get(one);
                SlowCall b = calls.get(other);
                return isTimed ? ahead(a, b) : a.thread == b.thread && one < other;
            }

            private void look(List<Integer> row, List<SlowThing> things) {
                if (found.size() >= most) {
                    return;
                }
                boolean isWhole = true;
                for (int m : members) {
                    isWhole &= row.contains(m) || calls.get(m).end < 0;
                }
                if (isWhole) {
                    found.add(new ArrayList<>(row));
                }
                for (int m : members) {
                    boolean isFree = !row.contains(m);
                    for (int other : members) {
                        // what must be ahead and does not hang can only come behind this one otherwise
                        isFree &= !(mustBeAhead(other, m) && !row.contains(other));
                    }
                    if (isFree) {
                        SlowCall c = calls.get(m);
                        SlowThing before = things.get(c.thing);
                        SlowThing after = before.copy();
                        int answer = after.act(c.op, c.value, c.thread);
                        if (c.end < 0 || mute.contains(m) || answer == c.answer) {
                            things.set(c.thing, after);
                            row.add(m);
                            look(row, things);
                            row.remove(row.size() - 1);
                            things.set(c.thing, before);
                        }
                    }
                }
            }
        }

        private boolean has(List<Integer> members, Set<Integer> mute, boolean isTimed) {
            return !new Looker(members, mute, isTimed, 1).found.isEmpty();
        }

        private List<Integer> firstRow(int part) {
            List<List<Integer>> found = new Looker(part(part), Set.of(), true, 1).found;
            return found.isEmpty() ? null : found.get(0);
        }

        boolean fits(int part) {
            partRight(part);
            return has(part(part), Set.of(), true);
        }

        private static String numbers(List<Integer> row) {
            return row == null ? "none" : SlowThing.join(row);
        }

        String first(int part) {
            partRight(part);
            return numbers(firstRow(part));
        }

        long orders(int part) {
            partRight(part);
            return new Looker(part(part), Set.of(), true, Integer.MAX_VALUE).found.size();
        }

        private List<Integer> joinedRow() {
            List<List<Integer>> rows = new ArrayList<>();
            for (int thing = 0; thing < kinds.size(); thing++) {
                List<Integer> row = firstRow(thing);
                if (row == null) {
                    return null;
                }
                rows.add(new ArrayList<>(row));
            }
            List<Integer> made = new ArrayList<>();
            while (true) {
                int best = -1;
                boolean isAny = false;
                for (List<Integer> row : rows) {
                    if (!row.isEmpty()) {
                        isAny = true;
                        int head = row.get(0);
                        boolean isFree = true;
                        for (List<Integer> other : rows) {
                            for (int c : other) {
                                isFree &= !ahead(calls.get(c), calls.get(head));
                            }
                        }
                        if (isFree && (best < 0 || head < best)) {
                            best = head;
                        }
                    }
                }
                if (!isAny) {
                    return made;
                }
                made.add(best);
                for (List<Integer> row : rows) {
                    row.remove(Integer.valueOf(best));
                }
            }
        }

        String joined() {
            return numbers(joinedRow());
        }

        String behind(int thing, int many) {
            index(in(thing, 0, kinds.size() - 1));
            argument(many >= 0);
            List<Integer> row = firstRow(thing);
            if (row == null || row.size() < many) {
                return "none";
            }
            SlowThing there = new SlowThing(kinds.get(thing));
            for (int c : row.subList(0, many)) {
                there.act(calls.get(c).op, calls.get(c).value, calls.get(c).thread);
            }
            return there.state();
        }

        boolean wouldFit(int call, int answer) {
            int before = retell(call, answer);
            boolean would = fits(calls.get(call).thing);
            retell(call, before);
            return would;
        }

        private Set<Integer> coreSet(int part) {
            Set<Integer> mute = new HashSet<>();
            Set<Integer> core = new HashSet<>();
            if (fits(part)) {
                return core;
            }
            for (int m : part(part)) {
                if (calls.get(m).end >= 0) {
                    mute.add(m);
                    if (has(part(part), mute, true)) {
                        mute.remove(m);
                        core.add(m);
                    }
                }
            }
            return core;
        }

        int core(int part) {
            partRight(part);
            int set = 0;
            for (int m : coreSet(part)) {
                set += 1 << m;
            }
            return set;
        }

        // ---- fast ways, by the words

        private List<SlowCall> of(int thing, int op) {
            List<SlowCall> those = new ArrayList<>();
            for (SlowCall c : calls) {
                if (c.thing == thing && c.op == op) {
                    those.add(c);
                }
            }
            return those;
        }

        private boolean isFastPossible(int thing) {
            int kind = kinds.get(thing);
            if (kind == 3) {
                return true;
            }
            if (kind > 1) {
                return false;
            }
            Set<Integer> values = new HashSet<>();
            for (SlowCall c : calls) {
                if (c.thing == thing && (c.end < 0 || c.op == 0 && !values.add(c.value))) {
                    return false;
                }
            }
            return true;
        }

        /** All reasons: number, first value, second value. */
        private List<int[]> reasons(int thing) {
            List<int[]> all = new ArrayList<>();
            int kind = kinds.get(thing);
            if (kind == 3) {
                for (int value = 1; value <= 9; value++) {
                    List<Integer> members = new ArrayList<>();
                    for (int m : part(thing)) {
                        if (calls.get(m).value == value) {
                            members.add(m);
                        }
                    }
                    if (!has(members, Set.of(), true)) {
                        all.add(new int[] {1, value, -1});
                    }
                }
                return all;
            }
            Map<Integer, SlowCall> givers = new HashMap<>();
            for (SlowCall c : of(thing, 0)) {
                givers.put(c.value, c);
                if (c.answer != 0) {
                    all.add(new int[] {5, c.value, -1});
                }
            }
            if (kind == 0) {
                registerReasons(thing, givers, all);
            } else {
                queueReasons(thing, givers, all);
            }
            return all;
        }

        private void registerReasons(int thing, Map<Integer, SlowCall> givers, List<int[]> all) {
            SlowCall zero = new SlowCall();
            zero.begin = -2;
            zero.end = -1;
            Map<Integer, List<SlowCall>> clusters = new HashMap<>();
            clusters.put(0, new ArrayList<>(List.of(zero)));
            for (int value : givers.keySet()) {
                clusters.put(value, new ArrayList<>(List.of(givers.get(value))));
            }
            for (SlowCall c : of(thing, 1)) {
                if (!clusters.containsKey(c.answer)) {
                    all.add(new int[] {1, c.answer, -1});
                } else {
                    clusters.get(c.answer).add(c);
                    if (c.answer > 0 && ahead(c, givers.get(c.answer))) {
                        all.add(new int[] {2, c.answer, -1});
                    }
                }
            }
            for (int a : clusters.keySet()) {
                for (int b : clusters.keySet()) {
                    if (a < b && must(clusters.get(a), clusters.get(b)) && must(clusters.get(b), clusters.get(a))) {
                        all.add(new int[] {3, a, b});
                    }
                }
            }
        }

        private static boolean must(List<SlowCall> one, List<SlowCall> other) {
            for (SlowCall a : one) {
                for (SlowCall b : other) {
                    if (a.end < b.begin) {
                        return true;
                    }
                }
            }
            return false;
        }

        private void queueReasons(int thing, Map<Integer, SlowCall> givers, List<int[]> all) {
            List<SlowCall> takes = of(thing, 1);
            Map<Integer, SlowCall> takers = new HashMap<>();
            for (SlowCall c : takes) {
                if (c.answer > 0) {
                    if (!givers.containsKey(c.answer) || ahead(c, givers.get(c.answer))) {
                        all.add(new int[] {1, c.answer, -1});
                    }
                    if (takers.put(c.answer, c) != null) {
                        all.add(new int[] {2, c.answer, -1});
                    }
                }
            }
            for (int a : givers.keySet()) {
                for (int b : givers.keySet()) {
                    if (ahead(givers.get(a), givers.get(b)) && takers.containsKey(b)
                            && (!takers.containsKey(a) || ahead(takers.get(b), takers.get(a)))) {
                        all.add(new int[] {3, a, b});
                    }
                }
            }
            for (SlowCall c : takes) {
                if (c.answer == 0) {
                    boolean isEach = true;
                    for (int p = c.begin; p <= c.end - 1; p++) {
                        boolean isSome = false;
                        for (int value : givers.keySet()) {
                            isSome |= givers.get(value).end <= p
                                    && (!takers.containsKey(value) || takers.get(value).begin > p);
                        }
                        isEach &= isSome;
                    }
                    if (isEach) {
                        all.add(new int[] {4, calls.indexOf(c), -1});
                    }
                }
            }
        }

        int fast(int thing) {
            index(in(thing, 0, kinds.size() - 1));
            if (!isFastPossible(thing)) {
                return -1;
            }
            return reasons(thing).isEmpty() ? 1 : 0;
        }

        int why(int thing, int what) {
            index(in(thing, 0, kinds.size() - 1));
            argument(in(what, 0, 2));
            if (!isFastPossible(thing) || reasons(thing).isEmpty()) {
                return -1;
            }
            List<int[]> all = reasons(thing);
            all.sort((a, b) -> a[0] != b[0] ? a[0] - b[0] : a[1] != b[1] ? a[1] - b[1] : a[2] - b[2]);
            return all.get(0)[what];
        }

        // ---- promises

        boolean promise(int which) {
            argument(in(which, 0, 3));
            if (which == 0) {
                return fits(-1);
            }
            if (which == 1) {
                return has(part(-1), Set.of(), false);
            }
            if (which == 2) {
                for (int thread = 0; thread < 3; thread++) {
                    List<Integer> view = new ArrayList<>();
                    Set<Integer> mute = new HashSet<>();
                    for (int m : part(-1)) {
                        SlowCall c = calls.get(m);
                        if (c.thread == thread) {
                            view.add(m);
                        } else if (SlowThing.changes(kinds.get(c.thing), c.op)) {
                            view.add(m);
                            mute.add(m);
                        }
                    }
                    if (!has(view, mute, false)) {
                        return false;
                    }
                }
                return true;
            }
            for (int thing = 0; thing < kinds.size(); thing++) {
                if (!has(part(thing), Set.of(), false)) {
                    return false;
                }
            }
            return true;
        }

        int promises() {
            int set = 0;
            for (int which = 0; which < 4; which++) {
                set += promise(which) ? 1 << which : 0;
            }
            return set;
        }

        // ---- programs

        int step(int part, int kind, int cell, int value) {
            index(in(part, 0, 2));
            argument(in(kind, 0, 6));
            argument(in(cell, 0, kind == 3 || kind == 4 ? 0 : 2));
            int[] least = {0, 0, 0, 1, 0, 0, 0};
            int[] most = {9, 0, 0, 9, 0, 0, 99};
            argument(in(value, least[kind], most[kind]));
            state(program.get(part).size() < 3);
            program.get(part).add(new int[] {kind, cell, value});
            stepped();
            return program.get(part).size();
        }

        int unstep(int part) {
            index(in(part, 0, 2));
            int gone = program.get(part).size();
            program.get(part).clear();
            stepped();
            return gone;
        }

        int steps(int part) {
            index(in(part, 0, 2));
            return program.get(part).size();
        }

        int ofStep(int part, int place, int what) {
            index(in(part, 0, 2));
            index(in(place, 0, program.get(part).size() - 1));
            argument(in(what, 0, 2));
            return program.get(part).get(place)[what];
        }

        private final SlowRuns[] worked = new SlowRuns[3];
        private long workedUnlike = -1;

        private void stepped() {
            Arrays.fill(worked, null);
            workedUnlike = -1;
        }

        private SlowRuns runsOf(int model) {
            argument(in(model, 0, 1));
            if (worked[model] == null) {
                worked[model] = new SlowRuns(program, model);
            }
            return worked[model];
        }

        int outcomes(int model) {
            return runsOf(model).ends.size();
        }

        int outcome(int model, int place) {
            SlowRuns runs = runsOf(model);
            argument(place >= 0);
            return place < runs.ends.size() ? new ArrayList<>(runs.ends).get(place) : -1;
        }

        boolean can(int model, int outcome) {
            return runsOf(model).ends.contains(outcome);
        }

        int stuck(int model) {
            return runsOf(model).stuck.size();
        }

        int places(int model) {
            return runsOf(model).ways.size();
        }

        long runs(int model) {
            return runsOf(model).count;
        }

        int fenced() {
            if (worked[2] == null) {
                List<List<int[]>> other = new ArrayList<>();
                for (List<int[]> part : program) {
                    List<int[]> steps = new ArrayList<>();
                    for (int[] step : part) {
                        steps.add(step);
                        if (step[0] == 0 || step[0] == 2) {
                            steps.add(new int[] {4, 0, 0});
                        }
                    }
                    other.add(steps);
                }
                worked[2] = new SlowRuns(other, 1);
            }
            return worked[2].ends.size();
        }

        long unlike() {
            if (workedUnlike < 0) {
                workedUnlike = SlowRuns.unlike(program);
            }
            return workedUnlike;
        }

        int knock() {
            return ++knocks;
        }

        boolean isSound() {
            boolean isEach = true;
            for (int thing = 0; thing < kinds.size(); thing++) {
                isEach &= fits(thing);
                int told = fast(thing);
                if (told >= 0 && (told == 1) != fits(thing)) {
                    return false;
                }
            }
            if (isEach != fits(-1)) {
                return false;
            }
            if (isEach && !new Looker(part(-1), Set.of(), true, Integer.MAX_VALUE).found.contains(joinedRow())) {
                return false;
            }
            if (promise(0) && !promise(1) || promise(1) && !(promise(2) && promise(3))) {
                return false;
            }
            if (!isEach) {
                Set<Integer> mute = new HashSet<>(part(-1));
                mute.removeAll(coreSet(-1));
                if (has(part(-1), mute, true)) {
                    return false;
                }
                for (int c : coreSet(-1)) {
                    Set<Integer> more = new HashSet<>(mute);
                    more.add(c);
                    if (!has(part(-1), more, true)) {
                        return false;
                    }
                }
            }
            return runsOf(1).ends.containsAll(runsOf(0).ends) && outcomes(0) == fenced() && runs(0) <= runs(1)
                    && runs(0) >= unlike();
        }

        private long sum;

        private void add(long v) {
            sum = sum * 31 + v;
        }

        long digest() {
            sum = 4203;
            for (int what = 0; what <= 5; what++) {
                add(bench(what));
            }
            for (int c = 0; c < calls.size(); c++) {
                for (int what = 0; what <= 6; what++) {
                    add(ofCall(c, what));
                }
                add(text(c).length());
                add(clock(c).length());
                add(isCause(c, c) ? 1 : 0);
            }
            for (int thread = 0; thread < 3; thread++) {
                add(drawn(thread).length());
            }
            for (int t = 0; t <= kinds.size(); t++) {
                int part = t == kinds.size() ? -1 : t;
                add(fits(part) ? 1 : 0);
                add(first(part).length());
                add(orders(part));
                add(core(part));
            }
            for (int thing = 0; thing < kinds.size(); thing++) {
                add(fast(thing));
                for (int what = 0; what <= 2; what++) {
                    add(why(thing, what));
                }
            }
            add(promises());
            add(joined().length());
            for (int copy = 0; copy < 3; copy++) {
                for (int what = 0; what <= 2; what++) {
                    add(ofCopy(copy, what));
                }
            }
            for (int message = 0; message < messages.size(); message++) {
                for (int what = 0; what <= 3; what++) {
                    add(ofMessage(message, what));
                }
            }
            add(spread());
            for (int part = 0; part < 3; part++) {
                add(steps(part));
                for (int place = 0; place < steps(part); place++) {
                    for (int what = 0; what <= 2; what++) {
                        add(ofStep(part, place, what));
                    }
                }
            }
            for (int model = 0; model <= 1; model++) {
                add(outcomes(model));
                add(outcome(model, 0));
                add(stuck(model));
                add(places(model));
                add(runs(model));
            }
            add(unlike());
            add(fenced());
            add(isSound() ? 1 : 0);
            return sum;
        }
    }

    /** One run of a program, as far as it came. */
    private static final class SlowRun {
        final List<List<int[]>> program;
        final int model;
        final int[] done = new int[3];
        final int[] cell = new int[3];
        final int[] hand = new int[3];
        final List<List<int[]>> buffers = new ArrayList<>();

        SlowRun(List<List<int[]>> program, int model) {
            this.program = program;
            this.model = model;
            for (int part = 0; part < 3; part++) {
                buffers.add(new ArrayList<>());
            }
        }

        SlowRun copy() {
            SlowRun other = new SlowRun(program, model);
            for (int i = 0; i < 3; i++) {
                other.done[i] = done[i];
                other.cell[i] = cell[i];
                other.hand[i] = hand[i];
                other.buffers.get(i).addAll(buffers.get(i));
            }
            return other;
        }

        String place() {
            StringBuilder out = new StringBuilder();
            out.append(Arrays.toString(done)).append(Arrays.toString(cell)).append(Arrays.toString(hand));
            for (List<int[]> buffer : buffers) {
                out.append('|');
                for (int[] entry : buffer) {
                    out.append(entry[0]).append(':').append(entry[1]).append(' ');
                }
            }
            return out.toString();
        }

        /** The moves that can be done: 0 to 2 next steps, 3 to 5 flushes. */
        List<Integer> moves() {
            List<Integer> all = new ArrayList<>();
            for (int part = 0; part < 3; part++) {
                if (done[part] < program.get(part).size()) {
                    int[] step = program.get(part).get(done[part]);
                    boolean isWaiting = model == 1 && step[0] >= 4 && !buffers.get(part).isEmpty();
                    if (!isWaiting && !(step[0] == 5 && cell[step[1]] != 0)) {
                        all.add(part);
                    }
                }
            }
            for (int part = 0; part < 3; part++) {
                if (!buffers.get(part).isEmpty()) {
                    all.add(3 + part);
                }
            }
            return all;
        }

        private void send(int part, int to, int value) {
            if (model == 0) {
                cell[to] = value;
            } else {
                buffers.get(part).add(new int[] {to, value});
            }
        }

        void move(int move) {
            if (move >= 3) {
                int[] entry = buffers.get(move - 3).remove(0);
                cell[entry[0]] = entry[1];
                return;
            }
            int[] step = program.get(move).get(done[move]);
            done[move]++;
            switch (step[0]) {
                case 0: send(move, step[1], step[2]); break;
                case 1:
                    hand[move] = cell[step[1]];
                    for (int[] entry : buffers.get(move)) {
                        if (entry[0] == step[1]) {
                            hand[move] = entry[1];
                        }
                    }
                    break;
                case 2: send(move, step[1], hand[move]); break;
                case 3: hand[move] = (hand[move] + step[2]) % 10; break;
                case 5: cell[step[1]] = 1; break;
                case 6:
                    if (cell[step[1]] == step[2] / 10) {
                        cell[step[1]] = step[2] % 10;
                        hand[move] = 1;
                    } else {
                        hand[move] = 0;
                    }
                    break;
                default: break;
            }
        }

        boolean isDone() {
            for (int part = 0; part < 3; part++) {
                if (done[part] < program.get(part).size()) {
                    return false;
                }
            }
            return true;
        }

        int outcome() {
            return Integer.parseInt("" + cell[0] + cell[1] + cell[2] + hand[0] + hand[1] + hand[2]);
        }
    }

    /** All runs of a program. */
    private static final class SlowRuns {
        final TreeSet<Integer> ends = new TreeSet<>();
        final Set<String> stuck = new HashSet<>();
        /** How many ways there are on from each place to an end of a run. */
        final Map<String, Long> ways = new HashMap<>();
        final long count;

        SlowRuns(List<List<int[]>> program, int model) {
            count = goOn(new SlowRun(program, model));
        }

        private long goOn(SlowRun run) {
            String place = run.place();
            if (ways.containsKey(place)) {
                return ways.get(place);
            }
            List<Integer> moves = run.moves();
            long sum = 0;
            for (int move : moves) {
                SlowRun next = run.copy();
                next.move(move);
                sum += goOn(next);
            }
            if (moves.isEmpty()) {
                sum = 1;
                if (run.isDone()) {
                    ends.add(run.outcome());
                } else {
                    stuck.add(place);
                }
            }
            ways.put(place, sum);
            return sum;
        }

        private static void all(SlowRun run, String row, List<String> rows) {
            List<Integer> moves = run.moves();
            if (moves.isEmpty()) {
                rows.add(row);
            }
            for (int move : moves) {
                SlowRun next = run.copy();
                next.move(move);
                all(next, row + move, rows);
            }
        }

        private static boolean areFree(int[] one, int[] other) {
            boolean isCell = one[0] != 3 && one[0] != 4 && other[0] != 3 && other[0] != 4 && one[1] == other[1];
            return !isCell || one[0] == 1 && other[0] == 1;
        }

        /** Takes together all rows that one turn of neighbours makes of each other, and counts the heaps. */
        static long unlike(List<List<int[]>> program) {
            List<String> rows = new ArrayList<>();
            all(new SlowRun(program, 0), "", rows);
            Set<String> left = new HashSet<>(rows);
            long heaps = 0;
            while (!left.isEmpty()) {
                heaps++;
                Deque<String> todo = new ArrayDeque<>();
                String any = left.iterator().next();
                left.remove(any);
                todo.add(any);
                while (!todo.isEmpty()) {
                    String row = todo.remove();
                    int[] at = new int[3];
                    for (int i = 0; i + 1 < row.length(); i++) {
                        int one = row.charAt(i) - '0';
                        int other = row.charAt(i + 1) - '0';
                        if (one != other && areFree(program.get(one).get(at[one]), program.get(other).get(at[other]))) {
                            String turned = row.substring(0, i) + other + one + row.substring(i + 2);
                            if (left.remove(turned)) {
                                todo.add(turned);
                            }
                        }
                        at[one]++;
                    }
                }
            }
            return heaps;
        }
    }
}
