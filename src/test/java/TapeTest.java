/** Promises 8, 9, 10, 11: the tape, rows of parts, chaff. */
public final class TapeTest {
    private static void tape() {
        SunriseRoof x = new SunriseRoof();
        for (int n = 20; n <= 400; n += 20) {
            Check.due("feed", x.feed(0, 0, 0, 0, 0), n);
        }
        Check.due("more than 400", x.feed(0, 0, 0, 0, 0), -1);
        Check.due("it stays", x.count(6), 400);
        Check.due("end(401)", x.end(401), -1);
        Check.due("end(-1)", x.end(-1), -1);
        Check.due("end(400)", x.end(400), 400);
        Check.due("end(381)", x.end(381), 381);
        Check.due("401 would be more", x.feed(1, 1, 1, 1, 1), -1);
        Check.due("end(380)", x.end(380), 380);
        Check.due("just 400", x.feed(1, 1, 1, 1, 1), 400);
        Check.due("end(0)", x.end(0), 0);
        Check.due("end(1)", x.end(1), -1);
        Check.due("none is REFUSED", x.count(7), 0);
    }

    private static void row() {
        SunriseRoof x = new SunriseRoof();
        Check.due("an empty tape", x.row(), -6);
        Check.due("status", x.status(), -6);
        Check.due("chaff", x.chaff(), 0);
        Check.feed(x, new byte[] {99, 0, 3, 9, 1, 2, 0, 0, 1, 1, 0, 0, 1, 1, 4, 0, 1, 1, 0, 10, 0, 0, 0, 0, (byte) 255, 0, 0, 0, 7, 7});
        Check.due("two come", x.row(), 2);
        Check.due("six do not", x.chaff(), 6);
        Check.due("the tape is empty", x.count(6), 0);
        Check.due("work, craft, heavy of 0", x.of(0, 0) * 100 + x.of(0, 2) * 10 + x.of(0, 3), 9939);
        Check.due("needs of 1", x.of(1, 1), 1);
        Check.due("left of 1", x.of(1, 4), 1);
        Check.due("REFUSED again", x.row(), -6);
        Check.due("chaff of the one that was not", x.chaff(), 6);
        Check.due("refused by -6", x.count(11), 2);
    }

    private static void fullRow() {
        SunriseRoof x = new SunriseRoof();
        byte[] bytes = new byte[44];
        for (int i = 0; i < 44; i += 4) {
            bytes[i] = 1;
            bytes[i + 1] = (byte) (i >= 32 ? 255 : 0);
        }
        Check.feed(x, bytes);
        Check.due("ten come", x.row(), 10);
        Check.due("for one there is no room", x.chaff(), 1);
        Check.due("needs as a byte", x.of(9, 1), 255);
        Check.feed(x, new byte[] {1, 0, 0, 0});
        Check.due("no room at all", x.row(), 0);
        Check.due("it is not REFUSED", x.status(), 0);
        Check.due("chaff", x.chaff(), 1);
        SunriseRoof y = new SunriseRoof();
        Check.feed(y, new byte[] {1, 0, 0, 0});
        Check.due("a part and no more", y.row(), 1);
        Check.due("no chaff", y.chaff(), 0);
        Check.feed(x, new byte[] {1});
        Check.due("a part that ends", x.row(), 0);
        Check.due("chaff", x.chaff(), 1);
    }

    public static void main(String[] args) {
        tape();
        row();
        fullRow();
        Check.finish("TapeTest");
    }
}
