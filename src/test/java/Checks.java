import java.nio.charset.StandardCharsets;
import java.util.NoSuchElementException;

/** What the tests share: feeding texts, and comparing answers. */
final class Checks {
    static final long NO_SUCH = Long.MIN_VALUE;
    static final long ILLEGAL = Long.MIN_VALUE + 1;

    interface Call {
        long answer();
    }

    private int checked = 0;
    private int wrong = 0;

    /** The call's answer, or which exception it threw. */
    static long of(Call call) {
        try {
            return call.answer();
        } catch (NoSuchElementException e) {
            return NO_SUCH;
        } catch (IllegalArgumentException e) {
            return ILLEGAL;
        }
    }

    void is(String what, long due, Call call) {
        same(what, due, of(call));
    }

    void same(String what, long due, long got) {
        checked++;
        if (due != got) {
            wrong++;
            if (wrong <= 40) {
                System.out.println(what + " answered " + name(got) + ", due is " + name(due));
            }
        }
    }

    void sameText(String what, String due, String got) {
        checked++;
        if (!due.equals(got)) {
            wrong++;
            if (wrong <= 40) {
                System.out.println(what + ": it was" + due + "; it is" + got);
            }
        }
    }

    int wrongOnes() {
        return wrong;
    }

    private static String name(long answer) {
        return answer == NO_SUCH ? "NoSuchElementException"
                : answer == ILLEGAL ? "IllegalArgumentException" : Long.toString(answer);
    }

    void end() {
        System.out.println(checked + " answers, " + wrong + " not as due");
        if (wrong > 0) {
            System.exit(1);
        }
    }

    static byte[] bytes(String text) {
        return text.getBytes(StandardCharsets.ISO_8859_1);
    }

    /** Feeds a text in twenties, filled up with blanks at the end. */
    static void feed(LychGate gate, String text) {
        byte[] bytes = bytes(text);
        for (int from = 0; from < bytes.length; from += 20) {
            int[] five = five(bytes, from);
            gate.feed(five[0], five[1], five[2], five[3], five[4]);
        }
    }

    static int[] five(byte[] bytes, int from) {
        int[] five = new int[5];
        for (int i = 0; i < 20; i++) {
            int value = from + i < bytes.length ? bytes[from + i] & 255 : ' ';
            five[i / 4] = five[i / 4] << 8 | value;
        }
        return five;
    }

    static int parish(LychGate gate, String text) {
        feed(gate, text);
        return gate.parish(text.length());
    }

    static int law(LychGate gate, String text) {
        feed(gate, text);
        return gate.law(text.length());
    }

    static int work(LychGate gate, String text) {
        feed(gate, text);
        return gate.work(text.length());
    }

    static int book(LychGate gate, String text) {
        feed(gate, text);
        return gate.book(text.length());
    }
}
