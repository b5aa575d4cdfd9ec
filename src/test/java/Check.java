import java.nio.charset.StandardCharsets;
import java.util.NoSuchElementException;

/** What the tests share: texts put into a teller, answers compared, the count of wrong ones. */
final class Check {
    static final int INDEX = -1001;
    static final int ELEMENT = -1002;

    private final String name;
    private long calls = 0;
    private long wrong = 0;

    Check(String itsName) {
        name = itsName;
    }

    void due(String call, long want, long got) {
        calls++;
        if (want != got) {
            wrong++;
            if (wrong <= 40) {
                System.out.println(name + ": " + call + " answered " + got + ", due is " + want);
            }
        }
    }

    void due(String call, boolean want, boolean got) {
        due(call, want ? 1 : 0, got ? 1 : 0);
    }

    void due(String call, String want, String got) {
        calls++;
        if (!want.equals(got)) {
            wrong++;
            if (wrong <= 40) {
                System.out.println(name + ": " + call + " answered \"" + got + "\", due is \"" + want + "\"");
            }
        }
    }

    void end() {
        System.out.println(name + ": " + calls + " answers, " + wrong + " wrong");
        if (wrong != 0 || calls == 0) {
            System.exit(1);
        }
    }

    static byte[] bytesOf(String text) {
        return text.getBytes(StandardCharsets.ISO_8859_1);
    }

    /** Feeds the bytes, with zeros behind them up to a multiple of twenty. */
    static int feed(ShortTeller teller, byte[] bytes) {
        int has = 0;
        for (int from = 0; from < bytes.length; from += 20) {
            int[] numbers = new int[5];
            for (int i = 0; i < 20; i++) {
                int b = from + i < bytes.length ? bytes[from + i] & 255 : 0;
                numbers[i / 4] = (numbers[i / 4] << 8) | b;
            }
            has = teller.feed(numbers[0], numbers[1], numbers[2], numbers[3], numbers[4]);
        }
        return has;
    }

    static int take(ShortTeller teller, String text) {
        byte[] bytes = bytesOf(text);
        feed(teller, bytes);
        return teller.text(bytes.length);
    }

    static ShortTeller of(String text) {
        ShortTeller teller = new ShortTeller();
        take(teller, text);
        return teller;
    }

    static String read(ShortTeller teller, int choice) {
        StringBuilder row = new StringBuilder();
        for (int k = 0; k < 20000; k++) {
            int sign = teller.sign(choice, k);
            if (sign == ShortTeller.NONE) {
                break;
            }
            row.append((char) sign);
        }
        return row.toString();
    }

    /** An option's answer, or which exception came. */
    static int option(ShortTeller teller, int option, int what) {
        try {
            return teller.option(option, what);
        } catch (IndexOutOfBoundsException e) {
            return e.getClass() == IndexOutOfBoundsException.class ? INDEX : INDEX - 100;
        } catch (NoSuchElementException e) {
            return e.getClass() == NoSuchElementException.class ? ELEMENT : ELEMENT - 100;
        }
    }
}
