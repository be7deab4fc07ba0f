import java.lang.annotation.Retention;
import java.lang.annotation.RetentionPolicy;
import java.lang.reflect.Method;
import java.util.ArrayList;
import java.util.Comparator;
import java.util.List;
import java.util.function.IntSupplier;

/** What the tests by hand share: telling a town, looking at an answer, running tests named after promises. */
abstract class TestKit {
    static final int NONE = RainBallot.NONE, UNKNOWN = RainBallot.UNKNOWN, OUTSIDE = RainBallot.OUTSIDE,
        NOT = RainBallot.NOT, FULL = RainBallot.FULL;
    static final int LEAST = Integer.MIN_VALUE, MOST = Integer.MAX_VALUE;
    static final String[] KINDS = {"garden", "orchard", "alley", "laundry"};
    static int wrong = 0;
    static int asked = 0;

    /** The document's sentence for which a test stands. */
    @Retention(RetentionPolicy.RUNTIME)
    @interface Says {
        String value();
    }

    // ---- looking at answers

    static void due(String what, long got, long want) {
        asked++;
        if (got != want) {
            wrong++;
            System.out.println(line() + what + ": answered " + got + ", due is " + want);
        }
    }

    static void due(long got, long want) {
        due("", got, want);
    }

    private static String line() {
        return StackWalker.getInstance().walk(calls -> calls.filter(c -> !c.getClassName().startsWith("TestKit"))
            .findFirst().map(c -> c.getFileName() + ":" + c.getLineNumber() + " ").orElse(""));
    }

    /** Calls that are all refused by the same answer, and change nothing. */
    static void refused(RainBallot x, int answer, IntSupplier... calls) {
        for (int i = 0; i < calls.length; i++) {
            String ahead = state(x);
            due("call " + i, calls[i].getAsInt(), answer);
            same("call " + i, state(x), ahead);
        }
    }

    /** A call that is answered, and changes nothing. */
    static void foretold(RainBallot x, int answer, IntSupplier call) {
        refused(x, answer, call);
    }

    static void same(String what, String got, String want) {
        due(what + " left " + got + ", was " + want, got.equals(want) ? 1 : 0, 1);
    }

    /** All that can be seen of it but what is kept, and as what it would be undone. */
    static String state(RainBallot x) {
        StringBuilder all = new StringBuilder();
        for (int what = 0; what < 10; what++) all.append(x.count(what)).append(' ');
        for (int s = 0; s < x.count(0); s++) {
            all.append('|');
            for (int what = 0; what < 7; what++) all.append(x.street(s, what)).append(' ');
            all.append(x.polls(s));
        }
        return all.append("| ").append(x.fault()).append(' ').append(x.where(2)).toString();
    }

    // ---- telling towns

    static void write(RainBallot x, String text) {
        for (int i = 0; i < text.length(); i++) x.write(text.charAt(i));
    }

    static RainBallot of(String text) {
        RainBallot x = new RainBallot();
        tell(x, text);
        return x;
    }

    static void tell(RainBallot x, String text) {
        write(x, text);
        due("fault of '" + text + "'", x.fault(), NONE);
        if (x.town() < 1) due("town of '" + text + "'", 0, 1);
    }

    static int faultOf(String text) {
        RainBallot x = new RainBallot();
        write(x, text);
        return x.fault();
    }

    static String times(String text, int n) {
        StringBuilder all = new StringBuilder();
        for (int i = 0; i < n; i++) all.append(text);
        return all.toString();
    }

    static void sound(String... texts) {
        for (String text : texts) due("'" + text + "'", faultOf(text), NONE);
    }

    /** Each text has its fault where a ^ stands, which is not of the text. */
    static void faultAt(String... texts) {
        for (String text : texts) {
            int place = text.indexOf('^');
            due("'" + text + "'", faultOf(text.substring(0, place) + text.substring(place + 1)), place);
        }
    }

    // ---- running

    /** Runs each test whose name begins with promise and two digits, and fails a promise that has none. */
    static void run(Class<?> tests, int first, int last) {
        List<Method> all = new ArrayList<>();
        for (Method m : tests.getDeclaredMethods()) if (m.getName().matches("promise[0-9]{2}_.+")) all.add(m);
        all.sort(Comparator.comparing(Method::getName));
        int[] of = new int[last + 1];
        int failed = 0;
        for (Method m : all) {
            of[Integer.parseInt(m.getName().substring(7, 9))]++;
            if (!holds(m)) failed++;
        }
        for (int p = first; p <= last; p++) if (of[p] == 0) due("tests of promise " + p, 0, 1);
        System.out.println(all.size() + " tests, " + failed + " failed; " + asked + " answers, " + wrong + " are not as due");
        if (wrong != 0) System.exit(1);
    }

    private static boolean holds(Method m) {
        int wrongAhead = wrong;
        int askedAhead = asked;
        try {
            m.invoke(null);
        } catch (ReflectiveOperationException e) {
            due("it threw " + e.getCause(), 0, 1);
        }
        if (asked == askedAhead) due("it asked nothing", 0, 1);
        boolean holds = wrong == wrongAhead;
        System.out.println((holds ? "ok " : "FAILED ") + m.getName() + ": \"" + m.getAnnotation(Says.class).value() + "\"");
        return holds;
    }
}
