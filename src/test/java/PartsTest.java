/** Promises 1, 2, 3, 17, 23, 24: a new object, parts, what stands and is ready, chains, rows. */
public final class PartsTest {
    private static void newObject() {
        SunriseRoof x = new SunriseRoof();
        int[] counts = {0, 0, 0, 0, 0, 0, 0, 0, 0, 0, 0, 0, -1, 0, 30, 2, 0};
        for (int w = 0; w < counts.length; w++) {
            Check.due("new: count(" + w + ")", x.count(w), counts[w]);
        }
        Check.due("NONE", SunriseRoof.NONE, -1);
        Check.due("new: status", x.status(), 0);
        Check.due("new: fault", x.fault(), -1);
        Check.due("new: stopped", x.stopped(), -1);
        Check.due("new: chaff", x.chaff(), 0);
        Check.due("new: of", x.of(0, 0), -1);
        Check.due("new: at", x.at(0, 0), -1);
        Check.due("new: drawn", x.drawn(0, 0), -1);
    }

    private static void wrongParts() {
        SunriseRoof x = new SunriseRoof();
        int[][] wrong = {{0, 0, 0, 0}, {100, 0, 0, 0}, {-1, 0, 0, 0}, {1, 1, 0, 0}, {1, -1, 0, 0}, {1, 0, 4, 0},
            {1, 0, -1, 0}, {1, 0, 0, 10}, {1, 0, 0, -1}, {1, Integer.MIN_VALUE, 0, 0}, {Integer.MAX_VALUE, 0, 0, 0}};
        for (int[] w : wrong) {
            Check.due("part that can't be", x.part(w[0], w[1], w[2], w[3]), -1);
            Check.due("its status", x.status(), -1);
        }
        Check.due("refused by -1", x.count(7), wrong.length);
        Check.due("no part came", x.count(0), 0);
    }

    private static void tenParts() {
        SunriseRoof x = new SunriseRoof();
        for (int p = 0; p < 10; p++) {
            Check.due("part " + p, x.part(p == 0 ? 99 : 1, (1 << p) - 1, p % 4, p), p);
            Check.due("status", x.status(), 0);
        }
        Check.due("needs of 9", x.of(9, 1), 511);
        Check.due("an eleventh", x.part(1, 1023, 0, 0), -5);
        Check.due("an eleventh that can't be", x.part(1, 1024, 0, 0), -1);
        Check.due("refused by -5", x.count(10), 1);
        Check.due("one chain through all", x.longest(), 99 + 9);
        Check.due("one row alone", x.rows(-1, 0), 1);
        Check.due("its last", x.rows(0, 9), 9);
        Check.due("behind its last", x.rows(0, 10), -1);
    }

    private static void ofParts() {
        SunriseRoof x = new SunriseRoof();
        x.part(5, 0, 3, 9);
        x.part(7, 1, 2, 8);
        int[] due = {7, 1, 2, 8, 7, 0, 7};
        for (int w = 0; w < due.length; w++) {
            Check.due("of(1, " + w + ")", x.of(1, w), due[w]);
        }
        Check.due("of(0, 5)", x.of(0, 5), 1);
        Check.due("of(0, 6)", x.of(0, 6), 12);
        Check.due("of(0, 7)", x.of(0, 7), -1);
        Check.due("of(0, -1)", x.of(0, -1), -1);
        Check.due("of(2, 0)", x.of(2, 0), -1);
        Check.due("of(-1, 0)", x.of(-1, 0), -1);
        Check.due("none of these is REFUSED", x.count(7) + x.count(8), 0);
    }

    private static void standing() {
        SunriseRoof x = new SunriseRoof();
        x.part(2, 0, 0, 0);
        x.part(9, 1, 0, 0);
        x.part(4, 1, 0, 0);
        x.part(3, 6, 0, 0);
        x.builder(1, 2);
        Check.due("nothing stands", x.stands(0), 0);
        Check.due("0 is ready", x.stands(1), 1);
        x.send(0, 0);
        Check.due("it comes to stand", x.tick(), 1);
        Check.due("0 stands", x.stands(0), 1);
        Check.due("1 and 2 are ready", x.stands(1), 6);
        Check.due("stands(2)", x.stands(2), -1);
        Check.due("stands(-1)", x.stands(-1), -1);
        Check.due("0 is not ready, as it stands", x.of(0, 5), 0);
        Check.due("nothing is left of 0, its chain goes on", x.of(0, 6), 12);
        Check.due("the longest", x.longest(), 12);
        x.send(0, 1);
        x.tick();
        Check.due("the chain as it is left", x.of(1, 6), 10);
        Check.due("rows are as of now", x.part(1, 0, 0, 0) * 100 + x.rows(-1, 0), 408);
        x.terms(0, 500);
        x.send(0, 4);
        x.tick();
        x.send(0, 1);
        Check.due("the longest as it is left", x.longest(), 10);
        Check.due("rows of what does not stand", x.rows(-1, 99), 2);
        Check.due("row 0", x.rows(0, 0) * 100 + x.rows(0, 1) * 10 + x.rows(0, 2), 123);
        Check.due("row 1", x.rows(1, 0) * 100 + x.rows(1, 1) * 10 + x.rows(1, 2), 213);
        Check.due("a fourth place", x.rows(0, 3), -1);
    }

    private static void manyRows() {
        SunriseRoof x = new SunriseRoof();
        for (int p = 0; p < 10; p++) {
            x.part(1, 0, 0, 0);
        }
        Check.due("all orders of ten", x.rows(-1, 0), 3628800);
        StringBuilder last = new StringBuilder();
        StringBuilder middle = new StringBuilder();
        for (int place = 0; place < 10; place++) {
            last.append(x.rows(3628799, place));
            middle.append(x.rows(362880 + 1, place));
        }
        Check.due("the last goes down", Long.parseLong(last.toString()), 9876543210L);
        Check.due("the second that begins with 1", Long.parseLong(middle.toString()), 1023456798L);
        Check.due("behind the last", x.rows(3628800, 0), -1);
        Check.due("i below NONE", x.rows(-2, 0), -1);
        Check.due("place below 0", x.rows(0, -1), -1);
        SunriseRoof empty = new SunriseRoof();
        Check.due("one row of none", empty.rows(-1, 0), 1);
        Check.due("which has no place", empty.rows(0, 0), -1);
    }

    public static void main(String[] args) {
        newObject();
        wrongParts();
        tenParts();
        ofParts();
        standing();
        manyRows();
        Check.finish("PartsTest");
    }
}
