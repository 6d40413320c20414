/** Makes benches of short texts, and tells all that a bench holds. */
final class Scene {
    private static final String[][] OPS = {{"WRITE", "READ"}, {"PUT", "TAKE"}, {"PUT", "TAKE"}, {"ADD", "REMOVE", "HAS"},
        {"ADD", "READ"}, {"TAKE", "FREE"}, {"WRITE", "READ", "SWAP"}};
    private static final String[] STEPS = {"WRITE", "LOAD", "STORE", "RAISE", "FENCE", "TAKE", "SWAP"};

    private Scene() {
    }

    static Callorder with(int... kinds) {
        Callorder bench = new Callorder();
        for (int kind : kinds) {
            bench.thing(kind);
        }
        return bench;
    }

    /**
     * A bench with one THING of each of these KINDS, and these MOVES: "0[PUT5" THREAD 0 begins to put 5 on the
     * THING 0, "0[2.PUT5" on the THING 2, "0]9" its CALL ends with the ANSWER 9, "0:PUT5=0" it begins and ends,
     * "~3" the CALL 3 is forgotten.
     */
    static Callorder play(int[] kinds, String moves) {
        Callorder bench = with(kinds);
        go(bench, kinds, moves);
        return bench;
    }

    static Callorder play(int kind, String moves) {
        return play(new int[] {kind}, moves);
    }

    static void go(Callorder bench, int[] kinds, String moves) {
        for (String move : moves.trim().isEmpty() ? new String[0] : moves.trim().split("\\s+")) {
            if (move.charAt(0) == '~') {
                bench.forget(Integer.parseInt(move.substring(1)));
                continue;
            }
            int thread = move.charAt(0) - '0';
            String rest = move.substring(2);
            if (move.charAt(1) == ']') {
                bench.end(thread, Integer.parseInt(rest));
                continue;
            }
            int dot = rest.indexOf('.');
            int thing = dot < 0 ? 0 : Integer.parseInt(rest.substring(0, dot));
            String[] told = rest.substring(dot + 1).split("=");
            String name = told[0].replaceAll("[0-9-]", "");
            String value = told[0].substring(name.length());
            int op = among(OPS[kinds[thing]], name);
            int number = value.isEmpty() ? 0 : Integer.parseInt(value);
            if (move.charAt(1) == '[') {
                bench.begin(thread, thing, op, number);
            } else {
                bench.call(thread, thing, op, number, Integer.parseInt(told[1]));
            }
        }
    }

    private static int among(String[] names, String name) {
        for (int number = 0; number < names.length; number++) {
            if (names[number].equals(name)) {
                return number;
            }
        }
        throw new IllegalStateException("no such name: " + name);
    }

    /** A bench with a PROGRAM: for each PART its STEPS, "WRITE 0 7, LOAD 1, RAISE 3, FENCE, SWAP 2 10". */
    static Callorder program(String... parts) {
        Callorder bench = new Callorder();
        put(bench, parts);
        return bench;
    }

    static void put(Callorder bench, String... parts) {
        for (int part = 0; part < parts.length; part++) {
            for (String step : parts[part].isEmpty() ? new String[0] : parts[part].split(", ")) {
                String[] words = step.split(" ");
                int kind = among(STEPS, words[0]);
                boolean isCell = kind != 3 && kind != 4;
                int cell = isCell ? Integer.parseInt(words[1]) : 0;
                int last = isCell ? 2 : 1;
                bench.step(part, kind, cell, words.length > last ? Integer.parseInt(words[last]) : 0);
            }
        }
    }

    /** The texts of all CALLS, with " / " between two. */
    static String texts(Callorder bench) {
        StringBuilder out = new StringBuilder();
        for (int call = 0; call < bench.bench(1); call++) {
            out.append(call == 0 ? "" : " / ").append(bench.text(call));
        }
        return out.toString();
    }

    /** All OUTCOMES of a MODEL, each with six digits. */
    static String outcomes(Callorder bench, int model) {
        StringBuilder out = new StringBuilder();
        for (int place = 0; place < bench.outcomes(model); place++) {
            out.append(place == 0 ? "" : " ").append(String.format("%06d", bench.outcome(model, place)));
        }
        return out.toString();
    }

    /** All that a bench holds, and what follows of it. */
    static String all(Callorder bench) {
        StringBuilder out = new StringBuilder();
        for (int what = 0; what <= 5; what++) {
            out.append(bench.bench(what)).append(' ');
        }
        for (int thing = 0; thing < bench.bench(0); thing++) {
            out.append("K").append(bench.kindOf(thing)).append(' ');
        }
        for (int call = 0; call < bench.bench(1); call++) {
            out.append('C');
            for (int what = 0; what <= 6; what++) {
                out.append(bench.ofCall(call, what)).append(' ');
            }
        }
        for (int copy = 0; copy <= 2; copy++) {
            out.append('S');
            for (int what = 0; what <= 2; what++) {
                out.append(bench.ofCopy(copy, what)).append(' ');
            }
        }
        for (int message = 0; message < bench.bench(4); message++) {
            out.append('M');
            for (int what = 0; what <= 3; what++) {
                out.append(bench.ofMessage(message, what)).append(' ');
            }
        }
        for (int part = 0; part <= 2; part++) {
            out.append('P');
            for (int place = 0; place < bench.steps(part); place++) {
                for (int what = 0; what <= 2; what++) {
                    out.append(bench.ofStep(part, place, what)).append(' ');
                }
            }
        }
        return out.append(bench.digest()).toString();
    }
}
