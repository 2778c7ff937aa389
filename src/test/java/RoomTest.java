import com.sun.management.ThreadMXBean;
import java.lang.management.ManagementFactory;

/**
 * Rule 12: what a run of 512 calls makes is small, and a call that only looks, or fills a place, makes nothing.
 * An exception of out is left out: most of what it takes is the machine's own trace of the calls.
 */
public final class RoomTest {
    /** With the calls that make an object ready there are 512 at most. */
    private static final int CALLS = 500, WARM_UP = 3;
    /** The room has 7.3 million fields and elements, mostly of 4 bytes: a run takes less than a 400th of it. */
    private static final long MOST_BYTES_OF_A_RUN = 60_000;

    private interface Run {
        void on(SizeForms forms, int call);
    }

    private final Due due = new Due("RoomTest");
    private final ThreadMXBean threads = (ThreadMXBean) ManagementFactory.getThreadMXBean();

    public static void main(String[] args) {
        RoomTest test = new RoomTest();
        test.runsAreSmall();
        test.looksMakeNothing();
        test.due.end();
    }

    private void runsAreSmall() {
        isSmall("longs", 0, (forms, call) -> forms.number(1, call));
        isSmall("short texts", 0, (forms, call) -> {
            if (call % 2 == 1) {
                forms.text();
            } else {
                forms.sign(call);
            }
        });
        isSmall("long texts", 0, (forms, call) -> {
            if (call % 5 == 4) {
                forms.text();
            } else {
                forms.sign(call);
            }
        });
        isSmall("units", 0, (forms, call) -> forms.unit(3, 65535, -32768));
        isSmall("jumps", 1, (forms, call) -> forms.unit(5, 0, 0));
        isSmall("choices", 1, (forms, call) -> {
            if (call % 21 == 20) {
                forms.choice(0);
            } else {
                forms.key(call, 0);
            }
        });
        isSmall("empty choices", 1, (forms, call) -> forms.choice(0));
        isSmall("members", 0, (forms, call) -> forms.member(true, 1, 1));
    }

    private void looksMakeNothing() {
        makesNothing("limit", (forms, call) -> forms.limit(3, 1 + call));
        makesNothing("sign", (forms, call) -> forms.sign(call));
        makesNothing("wipe", (forms, call) -> forms.wipe());
        makesNothing("number that is there", (forms, call) -> forms.number(0, 1000));
        makesNothing("text that is there", (forms, call) -> forms.text());
        makesNothing("told", (forms, call) -> forms.told(call % 5, call % 4));
        makesNothing("label", (forms, call) -> forms.label());
        makesNothing("put", (forms, call) -> forms.put(call % 40));
        makesNothing("unit that is refused", (forms, call) -> forms.unit(0, 0, 0));
        makesNothing("key", (forms, call) -> forms.key(call, 0));
        makesNothing("widen", (forms, call) -> {
            if (call % 2 == 1) {
                forms.widen();
            } else {
                forms.limit(3, 1 + call % 300);
            }
        });
        makesNothing("of", (forms, call) -> forms.of(call % 4, call % 4));
        makesNothing("out", (forms, call) -> forms.out(call % 200));
        makesNothing("member", (forms, call) -> forms.member(false, call % 301, 0));
        makesNothing("check", (forms, call) -> forms.check(call % 2));
        makesNothing("count", (forms, call) -> forms.count(call % 10));
    }

    /** The object itself is counted, too. */
    private void isSmall(String what, int labels, Run run) {
        long least = Long.MAX_VALUE;
        for (int time = 0; time <= WARM_UP; time++) {
            long before = made();
            SizeForms forms = new SizeForms();
            Due.labels(forms, labels);
            calls(forms, run);
            least = Math.min(least, made() - before);
        }
        due.same(what + ": a run makes " + least + " bytes, which is little", least <= MOST_BYTES_OF_A_RUN ? 1 : 0, 1);
        due.same(what + ": it is counted", least > 0 ? 1 : 0, 1);
    }

    private void makesNothing(String what, Run run) {
        long least = Long.MAX_VALUE;
        for (int time = 0; time <= WARM_UP; time++) {
            SizeForms forms = someOfEverything();
            long before = made();
            calls(forms, run);
            least = Math.min(least, made() - before);
        }
        due.same(what + ": bytes that its calls make", least, 0);
    }

    private static SizeForms someOfEverything() {
        SizeForms forms = new SizeForms();
        forms.number(0, 1000);
        forms.text();
        forms.link(4, 2, 0);
        forms.label();
        forms.put(0);
        forms.unit(4, 0, 0);
        forms.unit(0, 200, 7);
        forms.unit(5, 0, 0);
        forms.key(1, 0);
        forms.key(9, 0);
        forms.choice(0);
        forms.widen();
        return forms;
    }

    private static void calls(SizeForms forms, Run run) {
        for (int call = 0; call < CALLS; call++) {
            run.on(forms, call);
        }
    }

    /** How many bytes this thread has made since it began, which only grows. */
    private long made() {
        return threads.getThreadAllocatedBytes(Thread.currentThread().getId());
    }
}
