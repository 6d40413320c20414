import java.util.function.Function;
import java.util.function.Supplier;

/** What the boundary tests are told with: the sentence that a test is of, what is due, and what is refused. */
final class Check {
    static final Class<?> INDEX = IndexOutOfBoundsException.class;
    static final Class<?> ARGUMENT = IllegalArgumentException.class;
    static final Class<?> STATE = IllegalStateException.class;
    static final int NONE = -1;
    static final int REGISTER = 0;
    static final int QUEUE = 1;
    static final int STACK = 2;
    static final int SET = 3;
    static final int COUNTER = 4;
    static final int LOCK = 5;
    static final int CELL = 6;
    static final int[] FAR_OFF = {Integer.MIN_VALUE, Integer.MIN_VALUE + 1, -1000, 1000, Integer.MAX_VALUE - 1, Integer.MAX_VALUE};

    private static final Document DOCUMENT = new Document();
    private static int wrong = 0;
    private static int checks = 0;
    private static int checksBefore = -1;
    private static String sentence = "";

    private Check() {
    }

    /** The tests that follow are of these sentences of the Description. */
    static void says(String... quotes) {
        take(0, quotes);
    }

    /** The tests that follow are of these sentences of the section of a promise. */
    static void says(int promise, String... quotes) {
        take(promise, quotes);
    }

    private static void take(int part, String... quotes) {
        if (checks != checksBefore) {
            sentence = "";
        }
        for (String quote : quotes) {
            if (!DOCUMENT.name(part, quote)) {
                blame("the document does not say there: " + quote);
            }
        }
        sentence += (part == 0 ? "" : "promise " + part + ": ") + String.join(" / ", quotes);
        checksBefore = checks;
    }

    private static void blame(String what) {
        wrong++;
        if (wrong > 200) {
            return;
        }
        StringBuilder where = new StringBuilder();
        for (StackTraceElement at : new Throwable().getStackTrace()) {
            String name = at.getClassName();
            if (name.startsWith("Boundary") && !name.equals("Boundary") && !name.equals("BoundaryTest")) {
                where.append(where.length() == 0 ? at.getFileName() : "").append(':').append(at.getLineNumber());
            }
        }
        System.out.println(where + ": " + what + " [" + sentence + "]");
    }

    static void is(Object got, Object due) {
        checks++;
        if (!due.equals(got)) {
            blame("answered " + got + ", due is " + due);
        }
    }

    static void is(long got, long due) {
        checks++;
        if (got != due) {
            blame("answered " + got + ", due is " + due);
        }
    }

    /** The call throws just this, and leaves all as it is on a bench that was not asked. */
    static void refuses(Class<?> due, Supplier<Callorder> made, Function<Callorder, Object> call) {
        checks++;
        Callorder tried = made.get();
        Object got;
        try {
            got = call.apply(tried);
        } catch (RuntimeException e) {
            got = e.getClass();
            if (!e.getStackTrace()[0].getClassName().equals("Callorder")) {
                blame("not thrown by the class itself: " + e);
            }
        }
        if (!due.equals(got)) {
            blame("answered " + got + ", due is " + due);
        }
        same(tried, made.get());
    }

    /** The call answers, and leaves all as it is on a bench that was not asked. */
    static void leaves(Supplier<Callorder> made, Function<Callorder, Object> call) {
        checks++;
        Callorder asked = made.get();
        call.apply(asked);
        same(asked, made.get());
    }

    static void same(Callorder got, Callorder due) {
        checks++;
        String one = Scene.all(got);
        String other = Scene.all(due);
        if (!one.equals(other)) {
            blame("changed something: " + one + " was " + other);
        }
    }

    /** Tells what no test was of, and how many answers were wrong. */
    static int finish() {
        if (checks == checksBefore) {
            blame("nothing was tested of it");
        }
        for (String left : DOCUMENT.unnamed()) {
            wrong++;
            System.out.println("no test is of promise " + left);
        }
        System.out.println("BoundaryTest: " + checks + " checks, " + wrong + " wrong");
        return wrong;
    }
}
