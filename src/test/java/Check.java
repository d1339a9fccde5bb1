import java.nio.charset.StandardCharsets;

/** What the tests share: answers that are due, and texts fed to the tape. */
final class Check {
    private static int asked = 0;
    private static int wrong = 0;

    private Check() {
    }

    static void due(String call, long got, long want) {
        asked++;
        if (got != want) {
            wrong++;
            System.out.println(call + " answered " + got + ", due is " + want);
        }
    }

    static void finish(String name) {
        System.out.println(name + ": " + asked + " answers, " + wrong + " not as due");
        if (wrong != 0 || asked == 0) {
            System.exit(1);
        }
    }

    /** Five numbers for feed(), from twenty bytes that begin at a place; zeros behind the end. */
    static int[] numbers(byte[] bytes, int from) {
        int[] numbers = new int[5];
        for (int i = 0; i < 20; i++) {
            int b = from + i < bytes.length ? bytes[from + i] & 255 : 0;
            numbers[i / 4] = numbers[i / 4] << 8 | b;
        }
        return numbers;
    }

    static void feed(SunriseRoof x, byte[] bytes) {
        for (int from = 0; from < bytes.length; from += 20) {
            int[] n = numbers(bytes, from);
            x.feed(n[0], n[1], n[2], n[3], n[4]);
        }
        x.end(bytes.length);
    }

    static void feed(SunriseRoof x, String text) {
        feed(x, text.getBytes(StandardCharsets.ISO_8859_1));
    }

    static int law(SunriseRoof x, String text) {
        feed(x, text);
        return x.law();
    }

    static int orders(SunriseRoof x, String text) {
        feed(x, text);
        return x.orders();
    }

    /** Reads a law and puts it in force. */
    static void rule(SunriseRoof x, String text) {
        due("law of " + text, law(x, text) >= 0 ? 1 : 0, 1);
        x.force(x.count(4) - 1);
    }

    static void fault(boolean isOrders, String text, int place) {
        SunriseRoof x = new SunriseRoof();
        due("reading '" + text + "'", isOrders ? orders(x, text) : law(x, text), -6);
        due("FAULT of '" + text + "'", x.fault(), place);
    }

    static String times(String text, int n) {
        StringBuilder all = new StringBuilder();
        for (int i = 0; i < n; i++) {
            all.append(text);
        }
        return all.toString();
    }
}
