import com.sun.management.ThreadMXBean;
import java.lang.management.ManagementFactory;

/**
 * All calls of a run live in one room: what runs of dear calls on unlike terms make is counted here,
 * in bytes. What a call made on its way must not stay, whether it was refused or not.
 */
public final class RoomTest {
    private static final ThreadMXBean COUNTER =
        (ThreadMXBean) ManagementFactory.getThreadMXBean();
    private static final String THEORY = "var x:i;var f:i>i;var e:i>i;const g:i>i>o;"
        + "def t=\\h:i>i.\\a:i.h(h a);thm a assume x = f x";

    private static int wrong;
    private static int serial;

    private static int lay(TenRules x, String text) {
        for (int i = 0; i < text.length(); i += 20) {
            int[] n = new int[5];
            for (int k = 0; k < 20; k++) {
                n[k / 4] = n[k / 4] << 8 | (i + k < text.length() ? text.charAt(i + k) : ' ');
            }
            x.feed(n[0], n[1], n[2], n[3], n[4]);
        }
        return text.length();
    }

    /** Another term each time: the serial number in twos, with e and f for them. */
    private static String unlike() {
        serial++;
        StringBuilder s = new StringBuilder("x");
        for (int bit = 0; bit < 9; bit++) {
            s.insert(0, (serial >> bit & 1) == 0 ? "f(" : "e(").append(')');
        }
        return s.toString();
    }

    private static TenRules told() {
        TenRules x = new TenRules();
        x.theory(lay(x, THEORY));
        return x;
    }

    private static long made() {
        return COUNTER.getThreadAllocatedBytes(Thread.currentThread().getId());
    }

    /** One of the runs; the texts are the test's own and made ahead of it. */
    private static void run(int kind, String[] texts) {
        TenRules x = told();
        for (String text : texts) {
            int n = lay(x, text);
            if (kind == 0) {
                x.normal(n);
            } else if (kind == 1) {
                x.convert(n);
            } else if (kind == 2) {
                x.term(n, 5);
            } else if (kind == 3) {
                x.write(n);
            } else if (kind == 4) {
                x.writeType(n);
            } else {
                x.theory(n);
                x.fresh();
                x.theory(lay(x, THEORY));
            }
            if (x.about(2) == 60) {
                x.fresh();
                x.theory(lay(x, THEORY));
            }
        }
    }

    private static void count(String what, int kind, String begin, String end, int most) {
        String[] texts = new String[120];
        for (int i = 0; i < texts.length; i++) {
            texts[i] = begin + unlike() + end;
        }
        run(kind, texts);
        long before = made();
        run(kind, texts);
        long after = made() - before;
        System.out.println(what + ": " + after + " bytes");
        if (after > most) {
            wrong++;
            System.out.println("due are " + most + " at most");
        }
    }

    public static void main(String[] args) {
        count("normal forms", 0, "(\\b:i>i.t b (", ")) f", 170_000);
        count("refused conversions", 1, "rep once by a;", "", 100_000);
        count("terms", 2, "\\b:i.g (", ") b", 100_000);
        count("written terms", 3, "\\b:i.g (", ") b", 100_000);
        count("written types", 4, "\\b:i.g (", ") b", 100_000);
        count("theories", 5, "thm z refl ", "", 120_000);
        if (wrong > 0) {
            System.exit(1);
        }
    }
}
