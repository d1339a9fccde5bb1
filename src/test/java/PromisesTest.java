import java.util.function.IntSupplier;

/** Promises 1 to 38, one by one: their NONE, their refused numbers, nothing and full. What Terms tell more of is in Terms*Test. */
public final class PromisesTest {
    private static final int[] FAR = {Integer.MIN_VALUE, -1_000_000, -100, -2, 100, 1_000_000, Integer.MAX_VALUE};

    /** A question that is answered NONE: it is not REFUSED, so that the status and what is counted stay. */
    private static void none(String call, SunriseRoof x, IntSupplier made) {
        int status = x.status();
        int counted = Check.refusals(x);
        Check.due(call, made.getAsInt(), -1);
        Check.due("status behind " + call, x.status(), status);
        Check.due("REFUSED behind " + call, Check.refusals(x), counted);
    }

    /** Promise 1: "A waste without builders." */
    private static void newObject() {
        SunriseRoof x = new SunriseRoof();
        int[] counts = {0, 0, 0, 0, 0, 0, 0, 0, 0, 0, 0, 0, -1, 0, 30, 2, 0};
        for (int what = 0; what <= 16; what++) {
            Check.due("count(" + what + ")", x.count(what), counts[what]);
        }
        Check.due("NONE", SunriseRoof.NONE, -1);
        Check.due("status", x.status(), 0);
        Check.due("stands", x.stands(0) + x.stands(1), 0);
        Check.due("longest", x.longest(), 0);
        Check.due("rows", x.rows(-1, 0), 1);
        Check.due("plan", x.plan(-1), 0);
        Check.due("hands", x.hands(0) + x.hands(1), 0);
        Check.due("unseen", x.unseen(99), 1_000_000_000_000L);
        Check.due("whose", x.whose(-1) * 10 + x.whose(0), 10);
        Check.due("look", x.look(0) * 10 + x.look(1), 1);
        Check.due("forget", x.forget(), 0);
        Check.due("chaff", x.chaff(), 0);
        Check.due("end", x.end(0), 0);
        none("of", x, () -> x.of(0, 0));
        none("at", x, () -> x.at(0, 0));
        none("asks", x, () -> x.asks(0, 0, 0));
        none("fault", x, x::fault);
        none("stopped", x, x::stopped);
        none("plan of PART 0", x, () -> x.plan(0));
        none("taught", x, () -> x.taught(0));
        none("drawn", x, () -> x.drawn(0, 0));
        none("drawn", x, () -> x.drawn(0, 1));
        Check.refused("row", x, -6, x::row);
        Check.refused("law", x, -6, x::law);
        Check.refused("orders", x, -6, x::orders);
        Check.refused("force", x, -2, () -> x.force(0));
        Check.refused("send", x, -2, () -> x.send(0, 0));
        Check.refused("rest", x, -2, () -> x.rest(0));
        Check.refused("throwDown", x, -2, () -> x.throwDown(0));
        Check.refused("undo", x, -3, x::undo);
        Check.refused("sight", x, -2, () -> x.sight(0, 0, 0));
        Check.refused("back", x, -2, () -> x.back(0));
        Check.agreed("force(NONE)", x, -1, () -> x.force(-1));
        Check.agreed("nights", x, 1, () -> x.nights(0, 1));
        Check.agreed("tick", x, 0, x::tick);
        Check.agreed("image", x, 0, () -> x.image(0));
    }

    private static SunriseRoof full() {
        SunriseRoof x = new SunriseRoof();
        Check.fill(x, 10, 6);
        return x;
    }

    /** Promises 3, 5, 6, 17: of, at, asks, stands: what there is, and NONE. */
    private static void questions() {
        SunriseRoof x = full();
        x.nights(-1, 0);
        int[] noPart = {-1, 10, 31, 32, 42};
        int[] noBuilder = {-1, 6, 31, 32, 38};
        for (int what = 0; what <= 6; what++) {
            int w = what;
            Check.due("of(9, " + w + ")", x.of(9, w) >= 0 ? 1 : 0, 1);
            for (int p : noPart) {
                none("of(" + p + ", " + w + ")", x, () -> x.of(p, w));
            }
        }
        for (int what = 0; what <= 3; what++) {
            int w = what;
            Check.due("at(5, " + w + ")", x.at(5, w), w == 0 || w == 1 ? 1 : w == 2 ? 0 : -1);
            Check.due("asks(5, 9, " + w + ")", x.asks(5, 9, w), w == 3 ? 0 : 1);
            for (int b : noBuilder) {
                none("at(" + b + ", " + w + ")", x, () -> x.at(b, w));
                none("asks(" + b + ", 0, " + w + ")", x, () -> x.asks(b, 0, w));
            }
            for (int p : noPart) {
                none("asks(0, " + p + ", " + w + ")", x, () -> x.asks(0, p, w));
            }
        }
        none("of(0, 7)", x, () -> x.of(0, 7));
        none("of(0, -1)", x, () -> x.of(0, -1));
        none("at(0, 4)", x, () -> x.at(0, 4));
        none("at(0, -1)", x, () -> x.at(0, -1));
        none("asks(0, 0, 4)", x, () -> x.asks(0, 0, 4));
        none("asks(0, 0, -1)", x, () -> x.asks(0, 0, -1));
        none("stands(2)", x, () -> x.stands(2));
        none("stands(-1)", x, () -> x.stands(-1));
        for (int far : FAR) {
            none("of(" + far + ", 0)", x, () -> x.of(far, 0));
            none("of(0, " + far + ")", x, () -> x.of(0, far));
            none("at(" + far + ", 0)", x, () -> x.at(far, 0));
            none("at(0, " + far + ")", x, () -> x.at(0, far));
            none("asks(" + far + ", 0, 0)", x, () -> x.asks(far, 0, 0));
            none("asks(0, " + far + ", 0)", x, () -> x.asks(0, far, 0));
            none("asks(0, 0, " + far + ")", x, () -> x.asks(0, 0, far));
            none("stands(" + far + ")", x, () -> x.stands(far));
        }
    }

    /** Promises 8, 9: feed, end. */
    private static void tape() {
        SunriseRoof x = new SunriseRoof();
        none("end(1) of none", x, () -> x.end(1));
        Check.due("end(0) of none", x.end(0), 0);
        for (int n = 20; n <= 400; n += 20) {
            Check.due("feed", x.feed(n, n, n, n, n), n);
            Check.due("bytes of the TAPE", x.count(6), n);
        }
        none("a 401st byte", x, () -> x.feed(0, 0, 0, 0, 0));
        Check.due("400 stay", x.count(6), 400);
        none("end(401)", x, () -> x.end(401));
        none("end(-1)", x, () -> x.end(-1));
        for (int far : FAR) {
            if (far < 0 || far > 400) {
                none("end(" + far + ")", x, () -> x.end(far));
            }
        }
        Check.due("end(400)", x.end(400), 400);
        for (int n = 399; n > 380; n--) {
            Check.due("end(" + n + ")", x.end(n), n);
            none("20 behind " + n, x, () -> x.feed(0, 0, 0, 0, 0));
            Check.due("it stays", x.count(6), n);
        }
        Check.due("end(380)", x.end(380), 380);
        Check.due("20 behind 380", x.feed(0, 0, 0, 0, 0), 400);
        Check.due("end(1)", x.end(1), 1);
        none("end(2)", x, () -> x.end(2));
        Check.due("end(0)", x.end(0), 0);
        none("end(1)", x, () -> x.end(1));
    }

    /** Promise 8: "four of each number, the highest first"; end() cuts behind, and what is fed then comes behind that. */
    private static void bytesOfNumbers() {
        SunriseRoof x = new SunriseRoof();
        x.feed(0x05000000, 0x06010103, 0x07020209, 0x08040000, 0x09FFFFFF);
        Check.due("four PARTS", x.row(), 4);
        Check.due("the fifth has bytes above 127", x.chaff(), 1);
        int[][] due = {{5, 0, 0, 0}, {6, 1, 1, 3}, {7, 2, 2, 9}, {8, 4, 0, 0}};
        for (int p = 0; p < 4; p++) {
            for (int what = 0; what < 4; what++) {
                Check.due("of(" + p + ", " + what + ")", x.of(p, what), due[p][what]);
            }
        }
        SunriseRoof y = new SunriseRoof();
        y.feed(0x01000000, 0x02000000, 0x03000000, 0x04000000, 0x05000000);
        y.end(6);
        y.feed(0x00007700, 0, 0, 0, 0);
        Check.due("26 bytes", y.count(6), 26);
        y.end(8);
        Check.due("two", y.row(), 2);
        Check.due("2, with what was fed behind its first two bytes", y.of(1, 0) * 100 + y.of(1, 2), 200);
        SunriseRoof z = new SunriseRoof();
        z.feed(-1, -1, -1, -1, -1);
        Check.due("bytes of 255", z.row(), 0);
        Check.due("all CHAFF", z.chaff(), 5);
        z.feed(0x62617273, 0x80202020, 0, 0, 0);
        z.end(5);
        Check.due("a byte of 128 behind bars", z.law(), -6);
        Check.due("FAULT at it", z.fault(), 4);
        z.feed(0x62617273, 0xA0202020, 0, 0, 0);
        z.end(5);
        Check.due("128 and 32 are no blank", z.law(), -6);
        Check.due("FAULT at it", z.fault(), 4);
        z.feed(0xE2617273, 0, 0, 0, 0);
        z.end(4);
        Check.due("128 and a letter are no letter", z.law(), -6);
        Check.due("FAULT at it", z.fault(), 0);
        z.feed(0x62617273, 0, 0, 0, 0);
        z.end(4);
        Check.due("bars", z.law(), 0);
    }

    /** Promises 10 to 15: what empties the TAPE, and whose FAULT, CHAFF, CLAUSE is told. */
    private static void latest() {
        SunriseRoof x = new SunriseRoof();
        Check.fill(x, 1, 1);
        Check.due("a LAW with a FAULT", Check.law(x, "works z"), -6);
        Check.due("the TAPE is empty", x.count(6), 0);
        Check.due("6", x.fault(), 6);
        Check.due("ORDERS without", Check.orders(x, "tick"), 1);
        Check.due("the TAPE is empty", x.count(6), 0);
        Check.due("NONE", x.fault(), -1);
        Check.due("ORDERS with one", Check.orders(x, "tick z"), -6);
        Check.due("the TAPE is empty", x.count(6), 0);
        Check.due("5", x.fault(), 5);
        Check.due("a LAW without", Check.law(x, "bars if 1=2"), 0);
        Check.due("NONE", x.fault(), -1);
        Check.due("an empty LAW", x.law(), -6);
        Check.due("0", x.fault(), 0);
        Check.due("ORDERS that can't be", Check.orders(x, "tick;tick;rest 0"), -3);
        Check.due("NONE", x.fault(), -1);
        Check.due("CLAUSE 2", x.stopped(), 2);
        Check.law(x, "works z");
        Check.due("a LAW leaves it", x.stopped(), 2);
        x.feed(0, 0, 0, 0, 0);
        x.row();
        Check.due("row() leaves FAULT", x.fault(), 6);
        Check.due("and CLAUSE", x.stopped(), 2);
        Check.due("5 are CHAFF", x.chaff(), 5);
        Check.due("ORDERS that can be", Check.orders(x, "tick"), 1);
        Check.due("NONE", x.stopped(), -1);
        Check.due("row() of none", x.row(), -6);
        Check.due("5 are CHAFF still", x.chaff(), 5);
        Check.due("ORDERS that can't be", Check.orders(x, "rest 0"), -3);
        Check.due("CLAUSE 0", x.stopped(), 0);
        Check.due("blanks alone", Check.orders(x, "   "), -6);
        Check.due("FAULT at the end", x.fault(), 3);
        Check.due("none could not be", x.stopped(), -1);
        Check.law(x, "q");
        for (int i = x.count(4); i < 6; i++) {
            Check.due("more LAWS", Check.law(x, "bars"), i);
        }
        Check.orders(x, "tick !");
        Check.due("a LAW for which there is no room", Check.law(x, "works"), -5);
        Check.due("was not read", x.fault(), 5);
        Check.feed(x, new byte[] {1, 0, 0, 0});
        Check.due("a ROW without CHAFF", x.row(), 1);
        Check.due("none", x.chaff(), 0);
    }

    /** Promises 24 to 28, 31, 32, 34: what is far away from any number that can be. */
    private static void farAway() {
        SunriseRoof x = full();
        x.nights(0, 1);
        x.tick();
        for (int far : FAR) {
            none("rows(" + far + ", 0)", x, () -> far == 100 || far == 1_000_000 ? -1 : x.rows(far, 0));
            none("rows(0, " + far + ")", x, () -> x.rows(0, far));
            none("plan(" + far + ")", x, () -> x.plan(far));
            none("hands(" + far + ")", x, () -> x.hands(far));
            none("taught(" + far + ")", x, () -> x.taught(far));
            none("unseen(" + far + ")", x, () -> (int) x.unseen(far));
            none("whose(" + far + ")", x, () -> x.whose(far));
            none("look(" + far + ")", x, () -> x.look(far));
            none("drawn(" + far + ", 0)", x, () -> x.drawn(far, 0));
            none("drawn(" + far + ", 1)", x, () -> x.drawn(far, 1));
            none("drawn(0, " + far + ")", x, () -> x.drawn(0, far));
            none("count(" + far + ")", x, () -> x.count(far));
        }
        none("drawn(-1, 0)", x, () -> x.drawn(-1, 0));
        none("drawn(10, 0)", x, () -> x.drawn(10, 0));
        none("drawn(-1, 1)", x, () -> x.drawn(-1, 1));
        none("drawn(6, 1)", x, () -> x.drawn(6, 1));
        none("drawn(0, 2)", x, () -> x.drawn(0, 2));
        none("drawn(0, -1)", x, () -> x.drawn(0, -1));
        Check.due("drawn(9, 0)", x.drawn(9, 0), 0);
        Check.due("drawn(5, 1)", x.drawn(5, 1), 0);
        none("plan(10)", x, () -> x.plan(10));
        Check.due("plan(9)", x.plan(9), 10);
        none("count(17)", x, () -> x.count(17));
        none("count(-1)", x, () -> x.count(-1));
    }

    /** Promise 34: "Behind the latest NIGHTS, of the last one": of the PARTS and BUILDERS that there were. */
    private static void drawn() {
        SunriseRoof x = new SunriseRoof();
        x.nights(0, 1);
        Check.fill(x, 1, 1);
        none("a PART that came behind it", x, () -> x.drawn(0, 0));
        none("a BUILDER that came behind it", x, () -> x.drawn(0, 1));
        x.terms(1, 1);
        x.terms(2, 0);
        x.nights(0, 1);
        Check.due("LEFT", x.drawn(0, 0), 0);
        Check.due("TIRED", x.drawn(0, 1), 1);
        x.terms(2, 10);
        x.nights(0, 20);
        Check.due("LEFT in the rain", x.drawn(0, 0), 1);
        Check.due("TIRED in the rain", x.drawn(0, 1), 0);
        x.nights(0, 21);
        Check.due("a REFUSED one is not the latest", x.drawn(0, 0), 1);
    }

    /** Promise 37: each number that it names, at none and at its most. */
    private static void counts() {
        SunriseRoof x = full();
        Check.orders(x, "send 0 to 0;send 1 to 1;send 2 to 2;send 3 to 3;send 4 to 4;send 5 to 5;tick");
        Check.orders(x, "send 0 to 6;send 1 to 7;send 2 to 8;send 3 to 9;tick");
        for (int i = 0; i < 8; i++) {
            x.sight(0, 9, 1);
        }
        for (int i = 0; i < 6; i++) {
            Check.law(x, "bars");
        }
        for (int i = 0; i < 20; i++) {
            x.feed(0, 0, 0, 0, 0);
        }
        Check.due("undone is what can be", x.count(5), 12);
        x.force(5);
        int[] due = {10, 10, 6, 8, 6, 12, 400, 0, 0, 0, 0, 0, 5, 2, 30, 2, 0};
        for (int what = 0; what <= 16; what++) {
            Check.due("count(" + what + ")", x.count(what), due[what]);
        }
        for (int i = 1; i <= 3; i++) {
            x.part(0, 0, 0, 0);
            x.part(1, 0, 0, 0);
            x.rest(6);
            x.rest(5);
            x.end(0);
            x.row();
            for (int what = 7; what <= 11; what++) {
                Check.due("count(" + what + ")", x.count(what), i);
            }
        }
    }

    /** Promise 38: each call that it names, behind one that was REFUSED and behind one that was not. */
    private static void everyStatus() {
        SunriseRoof x = new SunriseRoof();
        Check.due("ahead of any", x.status(), 0);
        Check.fill(x, 2, 1);
        IntSupplier[] agreed = {() -> x.part(1, 0, 0, 0), () -> x.builder(1, 1), () -> x.terms(0, 5), () -> rowOf(x), () -> Check.law(x, "tires 1"),
            () -> Check.orders(x, "tick"), () -> x.force(0), () -> x.send(0, 0), () -> x.rest(0), x::tick, () -> tickUndone(x), () -> x.sight(0, 0, 0),
            () -> x.nights(0, 1), () -> x.image(0), () -> x.back(0), () -> thrown(x)};
        IntSupplier[] refused = {() -> x.part(0, 0, 0, 0), () -> x.builder(0, 1), () -> x.terms(4, 0), x::row, () -> Check.law(x, "tires"),
            () -> Check.orders(x, "rest 0"), () -> x.force(6), () -> x.send(9, 0), () -> x.rest(9), () -> late(x), () -> undone(x),
            () -> x.sight(0, 10, 0), () -> x.nights(0, 0), () -> x.image(2), () -> x.back(2), () -> x.throwDown(9)};
        int[] by = {-1, -1, -1, -6, -6, -3, -2, -2, -2, -3, -3, -2, -1, -1, -1, -2};
        for (int i = 0; i < agreed.length; i++) {
            agreed[i].getAsInt();
            Check.due("not REFUSED " + i, x.status(), 0);
            Check.due("REFUSED " + i, refused[i].getAsInt(), by[i]);
            Check.due("its status " + i, x.status(), by[i]);
            others(x);
            Check.due("others leave it " + i, x.status(), by[i]);
        }
    }

    private static int rowOf(SunriseRoof x) {
        Check.feed(x, new byte[] {1, 0, 0, 0});
        return x.row();
    }

    private static int late(SunriseRoof x) {
        x.terms(0, 999);
        return x.tick();
    }

    private static int tickUndone(SunriseRoof x) {
        x.terms(0, 0);
        x.tick();
        x.nights(0, 0);
        return x.undo();
    }

    private static int undone(SunriseRoof x) {
        x.terms(0, 5);
        return x.undo();
    }

    private static int thrown(SunriseRoof x) {
        x.force(-1);
        x.send(0, 0);
        x.tick();
        x.nights(0, 0);
        return x.throwDown(0);
    }

    /** All that leaves the status. */
    private static void others(SunriseRoof x) {
        x.of(0, 0);
        x.of(99, 99);
        x.at(0, 0);
        x.at(99, 99);
        x.asks(0, 0, 0);
        x.asks(99, 99, 99);
        x.feed(0, 0, 0, 0, 0);
        x.end(500);
        x.end(0);
        x.chaff();
        x.fault();
        x.stopped();
        x.stands(0);
        x.stands(9);
        x.longest();
        x.rows(0, 0);
        x.rows(-9, 0);
        x.plan(-1);
        x.plan(99);
        x.hands(0);
        x.hands(9);
        x.taught(0);
        x.taught(9);
        x.unseen(0);
        x.unseen(999);
        x.forget();
        x.whose(-1);
        x.whose(99);
        x.look(0);
        x.look(9);
        x.drawn(0, 0);
        x.drawn(9, 9);
        x.count(0);
        x.count(99);
        x.status();
    }

    public static void main(String[] args) {
        newObject();
        questions();
        tape();
        bytesOfNumbers();
        latest();
        farAway();
        drawn();
        counts();
        everyStatus();
        Check.finish("PromisesTest");
    }
}
