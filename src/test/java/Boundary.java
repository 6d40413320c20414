import java.util.List;
import java.util.function.Consumer;
import java.util.function.Function;
import java.util.function.Supplier;

/** Short names for what each boundary test is told with. */
abstract class Boundary {
    static final Class<?> INDEX = Check.INDEX;
    static final Class<?> ARGUMENT = Check.ARGUMENT;
    static final Class<?> STATE = Check.STATE;
    static final int NONE = Check.NONE;
    static final int REGISTER = Check.REGISTER;
    static final int QUEUE = Check.QUEUE;
    static final int STACK = Check.STACK;
    static final int SET = Check.SET;
    static final int COUNTER = Check.COUNTER;
    static final int LOCK = Check.LOCK;
    static final int CELL = Check.CELL;

    static void says(String... quotes) {
        Check.says(quotes);
    }

    static void says(int promise, String... quotes) {
        Check.says(promise, quotes);
    }

    static void is(Object got, Object due) {
        Check.is(got, due);
    }

    static void is(long got, long due) {
        Check.is(got, due);
    }

    static void refuses(Class<?> due, Supplier<Callorder> made, Function<Callorder, Object> call) {
        Check.refuses(due, made, call);
    }

    static void leaves(Supplier<Callorder> made, Function<Callorder, Object> call) {
        Check.leaves(made, call);
    }

    static Callorder with(int... kinds) {
        return Scene.with(kinds);
    }

    static Callorder play(int kind, String moves) {
        return Scene.play(kind, moves);
    }

    static Callorder play(int[] kinds, String moves) {
        return Scene.play(kinds, moves);
    }

    static Callorder program(String... parts) {
        return Scene.program(parts);
    }

    static Callorder after(Callorder bench, Consumer<Callorder> done) {
        done.accept(bench);
        return bench;
    }

    static List<Supplier<Callorder>> benches(Supplier<Callorder> one, Supplier<Callorder> two, Supplier<Callorder> three) {
        return List.of(one, two, three);
    }

    static int[] things(int... kinds) {
        return kinds;
    }
}
