import java.nio.charset.StandardCharsets;
import java.util.function.IntSupplier;

/** What the tests share: answers that are due, and texts fed to the tape. */
final class Check {
    private static int asked = 0;
    private static int wrong = 0;

    private Check() {
    }

    static void due(String call, long got, long want) {
        asked++;
        if (got != want) {
            wrong++;
            System.out.println(call + " answered " + got + ", due is " + want);
        }
    }

    static void finish(String name) {
        System.out.println(name + ": " + asked + " answers, " + wrong + " not as due");
        if (wrong != 0 || asked == 0) {
            System.exit(1);
        }
    }

    /** Five numbers for feed(), from twenty bytes that begin at a place; zeros behind the end. */
    static int[] numbers(byte[] bytes, int from) {
        int[] numbers = new int[5];
        for (int i = 0; i < 20; i++) {
            int b = from + i < bytes.length ? bytes[from + i] & 255 : 0;
            numbers[i / 4] = numbers[i / 4] << 8 | b;
        }
        return numbers;
    }

    static void feed(SunriseRoof x, byte[] bytes) {
        for (int from = 0; from < bytes.length; from += 20) {
            int[] n = numbers(bytes, from);
            x.feed(n[0], n[1], n[2], n[3], n[4]);
        }
        x.end(bytes.length);
    }

    static void feed(SunriseRoof x, String text) {
        feed(x, text.getBytes(StandardCharsets.ISO_8859_1));
    }

    static int law(SunriseRoof x, String text) {
        feed(x, text);
        return x.law();
    }

    static int orders(SunriseRoof x, String text) {
        feed(x, text);
        return x.orders();
    }

    /** Reads a law and puts it in force. */
    static void rule(SunriseRoof x, String text) {
        due("law of " + text, law(x, text) >= 0 ? 1 : 0, 1);
        x.force(x.count(4) - 1);
    }

    static void fault(boolean isOrders, String text, int place) {
        SunriseRoof x = new SunriseRoof();
        due("reading '" + text + "'", isOrders ? orders(x, text) : law(x, text), -6);
        due("FAULT of '" + text + "'", x.fault(), place);
    }

    /** A TEXT that can be: it is read without a FAULT, whether or not it can be run. */
    static void reads(boolean isOrders, String text) {
        SunriseRoof x = new SunriseRoof();
        int told = isOrders ? orders(x, text) : law(x, text);
        due("reading '" + text + "'", told == -6 ? 0 : 1, 1);
        due("FAULT of '" + text + "'", x.fault(), -1);
    }

    /** All that a call which is REFUSED must leave as it was, but for the tape and how many were REFUSED. */
    static String view(SunriseRoof x) {
        StringBuilder seen = new StringBuilder();
        int[] counts = {0, 1, 2, 3, 4, 5, 12, 13, 14, 15, 16};
        for (int what : counts) {
            seen.append(x.count(what)).append(' ');
        }
        for (int p = 0; p < x.count(0); p++) {
            seen.append('p').append(x.of(p, 4)).append(' ').append(x.drawn(p, 0)).append(' ');
        }
        for (int b = 0; b < x.count(2); b++) {
            seen.append('b').append(x.at(b, 2)).append(' ').append(x.at(b, 3)).append(' ').append(x.drawn(b, 1)).append(' ');
        }
        return seen.append('c').append(x.chaff()).append(' ').append(x.whose(-1)).toString();
    }

    /** A call is REFUSED by a number: it answers that, is counted there alone, and all is as it was. */
    static void refused(String call, SunriseRoof x, int by, IntSupplier made) {
        int[] order = {-1, -2, -3, -5, -6};
        int[] counted = new int[5];
        for (int i = 0; i < 5; i++) {
            counted[i] = x.count(7 + i);
        }
        String seen = view(x);
        due(call, made.getAsInt(), by);
        due("status behind " + call, x.status(), by);
        for (int i = 0; i < 5; i++) {
            due("REFUSED by " + order[i] + " behind " + call, x.count(7 + i) - counted[i], order[i] == by ? 1 : 0);
        }
        due("all is as it was behind " + call, view(x).equals(seen) ? 1 : 0, 1);
    }

    /** A call is not REFUSED: it answers, the status is 0, and it is counted nowhere. */
    static void agreed(String call, SunriseRoof x, int answer, IntSupplier made) {
        int counted = refusals(x);
        due(call, made.getAsInt(), answer);
        due("status behind " + call, x.status(), 0);
        due("REFUSED behind " + call, refusals(x) - counted, 0);
    }

    static int refusals(SunriseRoof x) {
        return x.count(7) + x.count(8) + x.count(9) + x.count(10) + x.count(11);
    }

    static void fill(SunriseRoof x, int parts, int builders) {
        for (int p = 0; p < parts; p++) {
            x.part(1, 0, 0, 0);
        }
        for (int b = 0; b < builders; b++) {
            x.builder(1, 1);
        }
    }

    static String times(String text, int n) {
        StringBuilder all = new StringBuilder();
        for (int i = 0; i < n; i++) {
            all.append(text);
        }
        return all.toString();
    }
}
