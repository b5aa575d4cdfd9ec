import java.lang.management.ManagementFactory;
import java.util.NoSuchElementException;
import java.util.Random;

/** Any calls in any state: none throws but as the document says, the same calls answer the same, in a small room. */
public final class WildCallsTest {
    private static final Check CHECK = new Check("WildCallsTest");
    private static final int CALLS = 512;
    /** A run may have some 600,000 objects and 7.3 million elements: this is far below, in bytes. */
    private static final long ROOM = 3_000_000L;
    private static final String SIGNS = "(){|}<>~*=. \na1b.a a. {a|b} ";

    public static void main(String[] args) {
        for (int seed = 0; seed < 400; seed++) {
            CHECK.due("run " + seed + " twice", answersOf(seed), answersOf(seed));
        }
        theDearestCallsStayInTheRoom();
        CHECK.end();
    }

    private static long answersOf(int seed) {
        Random random = new Random(seed);
        ShortTeller x = new ShortTeller();
        long answers = 17;
        for (int i = 0; i < CALLS; i++) {
            answers = answers * 31 + wildCall(x, random);
        }
        return answers;
    }

    private static int wild(Random random) {
        switch (random.nextInt(6)) {
            case 0:
                return random.nextInt();
            case 1:
                return random.nextBoolean() ? Integer.MIN_VALUE : Integer.MAX_VALUE;
            case 2:
                return random.nextInt(1 << 14);
            case 3:
                return -random.nextInt(40);
            default:
                return random.nextInt(40);
        }
    }

    private static int wildSigns(Random random) {
        int number = 0;
        for (int i = 0; i < 4; i++) {
            number = number << 8 | SIGNS.charAt(random.nextInt(SIGNS.length()));
        }
        return random.nextInt(50) == 0 ? random.nextInt() : number;
    }

    private static int wildCall(ShortTeller x, Random random) {
        int a = wild(random);
        int b = wild(random);
        switch (random.nextInt(18)) {
            case 0:
                return x.feed(wildSigns(random), wildSigns(random), wildSigns(random), wildSigns(random), a);
            case 1:
                return x.text(a);
            case 2:
                return Check.take(x, random.nextBoolean() ? "*A {b <1>|(c) d <2>}. =E. ~f (g <1>)." : "=A. b. c.");
            case 3:
                return x.fault(a);
            case 4:
                return wildOption(x, a, b);
            case 5:
                return x.knows(a, random.nextBoolean()) ? 1 : 0;
            case 6:
                return x.weight(a);
            case 7:
                return x.sound(a);
            case 8:
                return x.length(a);
            case 9:
                return x.value(a);
            case 10:
                return x.sign(a, b);
            case 11:
                return x.best(a);
            case 12:
                return x.ranked(a);
            case 13:
                return x.least(a);
            case 14:
                return x.turned(a, b);
            case 15:
                return x.named(a);
            default:
                return x.count(a);
        }
    }

    private static int wildOption(ShortTeller x, int option, int what) {
        int options = x.count(0);
        boolean hasOption = option >= 0 && option < options;
        boolean hasWhat = what >= 0 && what < 4;
        int due = !hasOption ? 1 : !hasWhat ? 2 : 0;
        int got = 0;
        int answer = 0;
        try {
            answer = x.option(option, what);
        } catch (IndexOutOfBoundsException e) {
            got = 1;
        } catch (NoSuchElementException e) {
            got = 2;
        }
        CHECK.due("option(" + option + ", " + what + ") throws", due, got);
        return answer;
    }

    /** Texts with all their options, and orders that are made anew for every call. */
    private static void theDearestCallsStayInTheRoom() {
        com.sun.management.ThreadMXBean threads =
                (com.sun.management.ThreadMXBean) ManagementFactory.getThreadMXBean();
        dearestCalls();
        long before = threads.getThreadAllocatedBytes(Thread.currentThread().getId());
        dearestCalls();
        long bytes = threads.getThreadAllocatedBytes(Thread.currentThread().getId()) - before;
        CHECK.due("the dearest calls take " + bytes + " bytes, too many", false, bytes > ROOM);
    }

    private static void dearestCalls() {
        ShortTeller x = new ShortTeller();
        StringBuilder text = new StringBuilder();
        for (int i = 0; i < 14; i++) {
            text.append("=Al <").append(i).append(">. *Bo ~he <").append(i + 14).append(">. ");
        }
        for (int i = 0; i < 14; i++) {
            Check.take(x, text.toString());
            for (int k = 0; k < 4; k++) {
                x.knows(k, true);
                x.best(100);
                x.turned(0, k);
                x.sign(16383 - k, 0);
            }
        }
    }
}
