import java.util.List;
import java.util.function.LongSupplier;

/** Counts and prints what is not as due. */
final class Check {
    private static int checks = 0;
    private static int wrong = 0;
    private static String sentence = "";

    private Check() {
    }

    /** The next checks test this sentence of the document; with -Dsentences=true it is printed. */
    static void about(String place, String words) {
        sentence = place + ", \"" + words + "\": ";
        if (Boolean.getBoolean("sentences")) {
            System.out.println(place + "\t" + words);
        }
    }

    static void count() {
        checks++;
    }

    static void same(String what, long due, long got) {
        checks++;
        if (due != got) {
            fail(what + " answered " + got + ", due is " + due);
        }
    }

    static void same(String what, List<Long> due, List<Long> got) {
        checks++;
        if (!due.equals(got)) {
            fail(what + " answered " + got + ", due is " + due);
        }
    }

    static void refuses(String what, Class<? extends RuntimeException> due, LongSupplier call) {
        checks++;
        try {
            fail(what + " answered " + call.getAsLong() + ", due is " + due.getName());
        } catch (RuntimeException e) {
            if (e.getClass() != due) {
                fail(what + " threw " + e.getClass().getName() + ", due is " + due.getName());
            }
        }
    }

    static void fail(String line) {
        wrong++;
        if (wrong <= 40) {
            System.out.println(sentence + line);
        }
    }

    static boolean failed() {
        return wrong > 0;
    }

    static void end() {
        System.out.println(checks + " checks, " + wrong + " wrong");
        if (wrong > 0) {
            System.exit(1);
        }
    }
}
