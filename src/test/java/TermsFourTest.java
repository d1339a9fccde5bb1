/** Terms IV, sentence by sentence: NIGHTS, the DRAW, a ROW and its CHAFF, IMAGES and what they do not keep. */
public final class TermsFourTest {
    /** "NIGHTS with a SEED, n 1 .. 20 .. s is the SEED (0 .. 1,000,000)" */
    private static void seedAndNumber() {
        SunriseRoof x = new SunriseRoof();
        Check.fill(x, 1, 1);
        int[] notSeed = {-1, 1_000_001, 1_000_003, Integer.MIN_VALUE, Integer.MAX_VALUE};
        for (int seed : notSeed) {
            Check.refused("SEED " + seed, x, -1, () -> x.nights(seed, 1));
        }
        int[] notNumber = {-1, 0, 21, Integer.MIN_VALUE, Integer.MAX_VALUE};
        for (int n : notNumber) {
            Check.refused("n " + n, x, -1, () -> x.nights(0, n));
        }
        Check.due("none was drawn", x.drawn(0, 0), -1);
        Check.agreed("the least", x, 1, () -> x.nights(0, 1));
        Check.agreed("the most", x, 20, () -> x.nights(1_000_000, 20));
    }

    private static long next(long s) {
        return (s * 1103 + 12345) % 1_000_003;
    }

    /** "a DRAW of m: s becomes (s times 1103 and 12345) modulo 1,000,003, it is s modulo m"; "by a DRAW of 10 below RAIN" */
    private static void draws() {
        SunriseRoof x = new SunriseRoof();
        x.part(9, 0, 0, 0);
        x.builder(1, 1);
        x.terms(1, 1);
        int[] seeds = {0, 1, 2, 3, 906, 907, 1812, 999_999, 1_000_000, 123_456, 895_301};
        for (int seed : seeds) {
            int draw = (int) (next(seed) % 10);
            for (int rain = draw; rain <= draw + 1; rain++) {
                x.terms(2, rain);
                x.nights(seed, 1);
                Check.due("SEED " + seed + " draws " + draw + ", RAIN " + rain, x.drawn(0, 0), rain > draw ? 9 : 8);
            }
        }
        x.terms(1, 99);
        x.terms(2, 5);
        for (int seed : seeds) {
            for (int n = 1; n <= 20; n += 19) {
                long s = seed;
                int dry = 0;
                int stood = 0;
                for (int night = 0; night < n; night++) {
                    dry = 0;
                    for (int t = 0; t < 99; t++) {
                        s = next(s);
                        dry += s % 10 < 5 ? 0 : 1;
                    }
                    stood += dry >= 9 ? 1 : 0;
                }
                Check.due("nights of SEED " + seed, x.nights(seed, n), stood);
                Check.due("the last", x.drawn(0, 0), Math.max(0, 9 - dry));
            }
        }
    }

    /** "RAIN 0 .. 10": never and always. "nobody WORKS in it (HOUR goes on, nobody TIRES or rests)" */
    private static void rain() {
        SunriseRoof x = new SunriseRoof();
        x.part(50, 0, 0, 0);
        x.builder(1, 1);
        x.builder(2, 1);
        Check.rule(x, "tires 5;works 0");
        x.send(0, 0);
        x.send(1, 0);
        x.tick();
        x.rest(0);
        x.rest(1);
        x.force(-1);
        x.terms(1, 99);
        x.terms(2, 10);
        Check.due("it rains always", x.nights(0, 20), 0);
        Check.due("nobody WORKS", x.drawn(0, 0), 50);
        Check.due("nobody TIRES", x.drawn(0, 1), 5);
        Check.due("nobody rests", x.drawn(1, 1), 5);
        x.terms(2, 0);
        x.terms(1, 50);
        Check.due("it never rains", x.nights(0, 20), 20);
        Check.due("all is done", x.drawn(0, 0), 0);
        Check.due("TIRED by 50 more", x.drawn(0, 1), 55);
        Check.due("rested", x.drawn(1, 1), 0);
        Check.due("on paper alone", x.of(0, 4) * 100 + x.at(0, 2), 5005);
        x.terms(1, 49);
        Check.due("one tick less", x.nights(0, 20), 0);
        Check.due("1 is LEFT", x.drawn(0, 0), 1);
        x.terms(1, 1);
        x.nights(0, 1);
        Check.due("NIGHT 1", x.drawn(0, 0), 49);
    }

    /** "Each night begins as now and has NIGHT ticks (HOUR goes on behind 999 there)" */
    private static void hours() {
        SunriseRoof x = new SunriseRoof();
        x.part(99, 0, 0, 0);
        x.builder(1, 1);
        x.terms(2, 0);
        x.terms(1, 99);
        x.terms(0, 999);
        Check.due("99 ticks from 999 on", x.nights(0, 1), 1);
        Check.due("while the PLAN has none", x.plan(-1), -1);
        Check.due("HOUR is as it was", x.count(13), 999);
        Check.rule(x, "works 3 if hour=999");
        x.terms(1, 1);
        x.nights(0, 1);
        Check.due("HOUR 999", x.drawn(0, 0), 96);
        Check.rule(x, "works 10 if hour=1000;works 1 if hour<1000;works 0 if hour>1000");
        x.terms(1, 3);
        x.nights(0, 1);
        Check.due("HOURS 999, 1000, 1000+1", x.drawn(0, 0), 88);
        x.terms(1, 99);
        Check.rule(x, "works 1 if hour<1000;works 7 if hour=1000+97;works 0 if hour>999 and hour<1000+97");
        x.nights(0, 1);
        Check.due("HOURS 999 to 1097", x.drawn(0, 0), 91);
        x.nights(0, 2);
        Check.due("each night begins as now", x.drawn(0, 0), 91);
        x.force(-1);
        x.send(0, 0);
        x.terms(0, 0);
        x.tick();
        x.terms(1, 10);
        x.nights(0, 2);
        Check.due("as it is LEFT now", x.drawn(0, 0), 88);
        Check.due("as TIRED as now", x.drawn(0, 1), 11);
    }

    /** "A ROW: the TAPE's bytes by fours: WORK, NEEDS (PARTS 0 .. 7 alone), CRAFT, HEAVY": each byte at its least and most. */
    private static void rowNumbers() {
        int[][] can = {{1, 0, 0, 0}, {99, 0, 0, 0}, {1, 0, 3, 0}, {1, 0, 0, 9}, {99, 0, 3, 9}};
        int[][] cannot = {{0, 0, 0, 0}, {100, 0, 0, 0}, {127, 0, 0, 0}, {128, 0, 0, 0}, {129, 0, 0, 0}, {255, 0, 0, 0}, {1, 1, 0, 0}, {1, 128, 0, 0},
            {1, 255, 0, 0}, {1, 0, 4, 0}, {1, 0, 127, 0}, {1, 0, 128, 0}, {1, 0, 131, 0}, {1, 0, 255, 0}, {1, 0, 0, 10}, {1, 0, 0, 128}, {1, 0, 0, 137},
            {1, 0, 0, 255}};
        for (int[] c : can) {
            SunriseRoof x = new SunriseRoof();
            Check.feed(x, bytes(c));
            Check.agreed("a PART", x, 1, x::row);
            Check.due("no CHAFF", x.chaff(), 0);
            for (int what = 0; what < 4; what++) {
                Check.due("of(0, " + what + ")", x.of(0, what), c[what]);
            }
        }
        for (int[] c : cannot) {
            SunriseRoof x = new SunriseRoof();
            Check.feed(x, bytes(c));
            Check.agreed("no PART", x, 0, x::row);
            Check.due("CHAFF", x.chaff() * 10 + x.count(0), 10);
        }
    }

    private static byte[] bytes(int... numbers) {
        byte[] all = new byte[numbers.length];
        for (int i = 0; i < numbers.length; i++) {
            all[i] = (byte) numbers[i];
        }
        return all;
    }

    /** "NEEDS (PARTS 0 .. 7 alone)": lower ones, as bits of one byte, the eighth of which is no sign. */
    private static void rowNeeds() {
        SunriseRoof x = new SunriseRoof();
        for (int p = 0; p < 10; p++) {
            int own = p < 8 ? 1 << p : 256;
            if (p < 8) {
                Check.feed(x, bytes(1, own, 0, 0));
                Check.agreed("PART " + p + " NEEDS itself", x, 0, x::row);
            }
            Check.feed(x, bytes(1, own - 1, 0, 0));
            Check.agreed("PART " + p + " NEEDS all of 0 .. 7 that are lower", x, 1, x::row);
            Check.due("its NEEDS", x.of(p, 1), own - 1);
        }
        SunriseRoof y = new SunriseRoof();
        Check.fill(y, 8, 0);
        Check.feed(y, bytes(1, 128, 0, 0));
        Check.agreed("PART 8 NEEDS 7", y, 1, y::row);
        Check.due("bit 7 alone", y.of(8, 1), 128);
    }

    /** "one that can't be, one within which the TAPE ends, one for which there is no room is CHAFF: none" */
    private static void chaff() {
        for (int n = 1; n <= 9; n++) {
            SunriseRoof x = new SunriseRoof();
            Check.feed(x, bytes(1, 0, 0, 0, 1, 0, 0, 0, 1));
            x.end(n);
            Check.agreed("a ROW of " + n, x, n / 4, x::row);
            Check.due("CHAFF of " + n, x.chaff(), n % 4 == 0 ? 0 : 1);
            Check.due("the TAPE is empty", x.count(6), 0);
        }
        SunriseRoof x = new SunriseRoof();
        Check.refused("an empty TAPE", x, -6, x::row);
        Check.due("no CHAFF ahead of any", x.chaff(), 0);
        byte[] all = new byte[400];
        for (int i = 0; i < 400; i += 4) {
            all[i] = 1;
        }
        Check.feed(x, all);
        Check.agreed("100 on a full TAPE", x, 10, x::row);
        Check.due("for 90 there is no room", x.chaff(), 90);
        Check.refused("the TAPE is empty", x, -6, x::row);
        Check.due("CHAFF of the one that was not REFUSED", x.chaff(), 90);
        Check.feed(x, bytes(1, 0, 0, 0));
        Check.agreed("none more", x, 0, x::row);
        Check.due("one is CHAFF", x.chaff(), 1);
        SunriseRoof y = new SunriseRoof();
        Check.fill(y, 9, 0);
        Check.feed(y, bytes(1, 0, 0, 0, 0, 0, 0, 0, 1, 0, 0, 0));
        Check.agreed("one for which there is room", y, 1, y::row);
        Check.due("one can't be, for one there is no room", y.chaff(), 2);
        SunriseRoof z = new SunriseRoof();
        Check.feed(z, bytes(0, 0, 0, 0, 5, 0, 0, 0, 1, 2, 0, 0, 7, 1, 0, 0));
        Check.agreed("what is CHAFF has no number", z, 2, z::row);
        Check.due("5, then 7 that NEEDS it", z.of(0, 0) * 100 + z.of(1, 0) * 10 + z.of(1, 1), 571);
    }

    /** "IMAGES 0, 1 keep all but .." */
    private static void imageNumbers() {
        SunriseRoof x = new SunriseRoof();
        int[] no = {-1, 2, Integer.MIN_VALUE, Integer.MAX_VALUE};
        for (int k : no) {
            Check.refused("IMAGE " + k, x, -1, () -> x.image(k));
            Check.refused("BACK to " + k, x, -1, () -> x.back(k));
        }
        Check.refused("0 was not kept", x, -2, () -> x.back(0));
        Check.refused("1 was not kept", x, -2, () -> x.back(1));
        Check.agreed("1 is kept", x, 0, () -> x.image(1));
        Check.refused("0 was not", x, -2, () -> x.back(0));
        Check.agreed("BACK to 1", x, 0, () -> x.back(1));
        Check.agreed("0 is kept", x, 0, () -> x.image(0));
        Check.agreed("BACK to 0", x, 0, () -> x.back(0));
    }

    /** "BACK to one all that it keeps is as it was then (IMAGES stay)": nothing, full, and each apart. */
    private static void imagesKeep() {
        SunriseRoof x = new SunriseRoof();
        x.image(0);
        String nothing = Check.view(x);
        Check.fill(x, 10, 6);
        for (int i = 0; i < 8; i++) {
            x.sight(i, i, 0);
        }
        for (int i = 0; i < 6; i++) {
            Check.law(x, "works " + (i + 1));
        }
        x.force(5);
        x.terms(0, 998);
        x.terms(1, 99);
        x.terms(2, 10);
        x.terms(3, 9);
        x.send(5, 9);
        x.image(1);
        String full = Check.view(x);
        x.back(0);
        Check.due("nothing", Check.view(x).equals(nothing) ? 1 : 0, 1);
        Check.agreed("PART 0 again", x, 0, () -> x.part(9, 0, 0, 0));
        Check.agreed("BUILDER 0 again", x, 0, () -> x.builder(1, 1));
        Check.due("LAW 0 again", Check.law(x, "works 20"), 0);
        Check.agreed("SIGHT 1 again", x, 1, () -> x.sight(9, 0, 1));
        x.back(1);
        Check.due("full", Check.view(x).equals(undoneGone(full)) ? 1 : 0, 1);
        Check.due("AT 9", x.at(5, 3), 9);
        Check.due("LAW 5 is in FORCE", x.asks(5, 9, 0), 6);
        Check.refused("no room for a PART", x, -5, () -> x.part(1, 0, 0, 0));
        Check.refused("no room for a BUILDER", x, -5, () -> x.builder(1, 1));
        Check.refused("no room for a SIGHT", x, -5, () -> x.sight(0, 0, 0));
        Check.refused("no room for a LAW", x, -5, x::law);
        Check.agreed("the last tick", x, 1, x::tick);
        Check.refused("no tick more", x, -3, x::tick);
        Check.agreed("BACK to 1 again", x, 0, () -> x.back(1));
        Check.due("HOUR 998", x.count(13), 998);
        Check.agreed("BACK to 0 again", x, 0, () -> x.back(0));
        Check.due("nothing again", Check.view(x).equals(nothing) ? 1 : 0, 1);
        Check.agreed("0 is kept anew, in 1's stead", x, 0, () -> x.image(1));
        x.back(1);
        Check.due("nothing is in 1", x.count(0), 0);
    }

    /** Each number of a PART and of a BUILDER is kept, where others came to be in their stead. */
    private static void imagesKeepNumbers() {
        SunriseRoof x = new SunriseRoof();
        x.image(0);
        x.part(5, 0, 1, 2);
        x.part(7, 1, 3, 4);
        x.builder(3, 6);
        x.image(1);
        x.back(0);
        x.part(50, 0, 2, 9);
        x.part(70, 0, 0, 8);
        x.builder(12, 1);
        x.image(0);
        int[][] first = {{50, 0, 2, 9, 50}, {70, 0, 0, 8, 70}};
        int[][] second = {{5, 0, 1, 2, 5}, {7, 1, 3, 4, 7}};
        for (int round = 0; round < 2; round++) {
            for (int k = 0; k < 2; k++) {
                x.back(k);
                for (int p = 0; p < 2; p++) {
                    for (int what = 0; what < 5; what++) {
                        Check.due("of(" + p + ", " + what + ")", x.of(p, what), (k == 0 ? first : second)[p][what]);
                    }
                }
                Check.due("CRAFTS and PACE", x.at(0, 0) * 10 + x.at(0, 1), k == 0 ? 121 : 36);
            }
        }
    }

    /** A view in which nothing can be undone: count(5) is its sixth number. */
    private static String undoneGone(String view) {
        String[] words = view.split(" ", 7);
        words[5] = "0";
        return String.join(" ", words);
    }

    /** "all but the TAPE, FAULT, CHAFF, where ORDERS stopped, what can be undone (nothing, behind back()), the latest NIGHTS" */
    private static void imagesDoNotKeep() {
        SunriseRoof x = new SunriseRoof();
        Check.fill(x, 1, 1);
        x.tick();
        x.feed(1, 2, 3, 4, 5);
        x.image(0);
        Check.due("image() leaves the TAPE", x.count(6), 20);
        Check.due("image() leaves what can be undone", x.count(5), 1);
        x.end(0);
        x.back(0);
        Check.due("the TAPE is as it is", x.count(6), 0);
        Check.refused("nothing can be undone", x, -3, x::undo);
        Check.law(x, "works ?");
        x.back(0);
        Check.due("FAULT is as it is", x.fault(), 6);
        Check.feed(x, bytes(1, 0, 0, 0, 1));
        x.row();
        x.back(0);
        Check.due("CHAFF is as it is", x.chaff(), 1);
        Check.orders(x, "tick;rest 0");
        x.back(0);
        Check.due("where ORDERS stopped is as it is", x.stopped(), 1);
        Check.due("FAULT of the ORDERS", x.fault(), -1);
        x.terms(2, 0);
        x.nights(0, 1);
        x.back(0);
        Check.due("the latest NIGHTS are as they are", x.drawn(0, 0), 0);
        int refused = Check.refusals(x);
        x.image(1);
        x.part(0, 0, 0, 0);
        x.back(1);
        Check.due("how many were REFUSED is as it is", Check.refusals(x), refused + 1);
        x.feed(6, 6, 6, 6, 6);
        x.back(1);
        Check.due("the TAPE is as it is", x.count(6), 20);
    }

    public static void main(String[] args) {
        seedAndNumber();
        draws();
        rain();
        hours();
        rowNumbers();
        rowNeeds();
        chaff();
        imageNumbers();
        imagesKeep();
        imagesKeepNumbers();
        imagesDoNotKeep();
        Check.finish("TermsFourTest");
    }
}
