/** Terms III, sentence by sentence: READY, SEND, REST, THROW, a tick, and what of it can be undone. */
public final class TermsThreeDeedsTest {
    /** "A PART is READY, if it does not STAND and all that it NEEDS does." */
    private static void ready() {
        SunriseRoof x = new SunriseRoof();
        Check.due("none is READY", x.stands(1), 0);
        Check.due("none STANDS", x.stands(0), 0);
        Check.fill(x, 2, 2);
        x.part(1, 3, 0, 0);
        Check.due("none that it NEEDS", x.of(2, 5) * 100 + x.stands(1), 3);
        x.send(0, 0);
        x.tick();
        Check.due("one of two", x.of(2, 5) * 100 + x.stands(1), 2);
        Check.refused("so none is sent", x, -3, () -> x.send(0, 2));
        x.send(0, 1);
        x.tick();
        Check.due("all", x.of(2, 5) * 100 + x.stands(1), 104);
        Check.agreed("so one is sent", x, 1, () -> x.send(0, 2));
        x.tick();
        Check.due("it STANDS", x.of(2, 5) * 100 + x.stands(1), 0);
        Check.due("all do", x.stands(0), 7);
        SunriseRoof y = new SunriseRoof();
        Check.fill(y, 10, 6);
        Check.due("all ten are READY", y.stands(1), 1023);
        Check.orders(y, "send 0 to 0;send 1 to 1;send 2 to 2;send 3 to 3;send 4 to 4;send 5 to 5;tick");
        Check.due("six STAND", y.stands(0), 63);
        Check.orders(y, "send 0 to 6;send 1 to 7;send 2 to 8;send 3 to 9;tick");
        Check.due("ten STAND", y.stands(0), 1023);
        Check.due("none is READY", y.stands(1), 0);
    }

    /** "To SEND a BUILDER to a READY PART from which it is not BARRED (wherever it is AT): it is AT that then." */
    private static void send() {
        SunriseRoof x = new SunriseRoof();
        x.part(5, 0, 3, 0);
        x.part(99, 0, 0, 0);
        x.builder(1, 1);
        Check.agreed("from none, without its CRAFT", x, 5, () -> x.send(0, 0));
        Check.agreed("from the same", x, 5, () -> x.send(0, 0));
        Check.agreed("from another", x, 99, () -> x.send(0, 1));
        Check.due("AT that then", x.at(0, 3), 1);
        x.tick();
        Check.agreed("what is LEFT of it", x, 98, () -> x.send(0, 1));
        Check.rule(x, "bars if part=0");
        Check.refused("BARRED", x, -3, () -> x.send(0, 0));
        Check.agreed("not BARRED", x, 98, () -> x.send(0, 1));
        int[] none = {-1, 1, 6, Integer.MIN_VALUE, Integer.MAX_VALUE};
        for (int b : none) {
            Check.refused("no BUILDER " + b, x, -2, () -> x.send(b, 1));
        }
        int[] noPart = {-1, 2, 10, 32, Integer.MIN_VALUE, Integer.MAX_VALUE};
        for (int p : noPart) {
            Check.refused("no PART " + p, x, -2, () -> x.send(0, p));
        }
    }

    /** "To REST one that is AT a PART: it is AT none." */
    private static void rest() {
        SunriseRoof x = new SunriseRoof();
        Check.refused("no BUILDER at all", x, -2, () -> x.rest(0));
        Check.fill(x, 10, 6);
        Check.refused("AT none", x, -3, () -> x.rest(5));
        x.send(5, 9);
        x.send(4, 0);
        Check.agreed("AT 9", x, 9, () -> x.rest(5));
        Check.due("AT none", x.at(5, 3), -1);
        Check.refused("AT none again", x, -3, () -> x.rest(5));
        Check.agreed("AT 0", x, 0, () -> x.rest(4));
        x.send(0, 0);
        x.tick();
        Check.refused("AT none by what it built", x, -3, () -> x.rest(0));
        int[] none = {-1, 6, Integer.MIN_VALUE, Integer.MAX_VALUE};
        for (int b : none) {
            Check.refused("no BUILDER " + b, x, -2, () -> x.rest(b));
        }
    }

    /** "To THROW down a PART that STANDS and which none NEEDS that STANDS, has less LEFT than its WORK or a BUILDER AT it" */
    private static void throwDown() {
        SunriseRoof x = new SunriseRoof();
        Check.refused("no PART at all", x, -2, () -> x.throwDown(0));
        x.part(2, 0, 0, 0);
        x.part(3, 1, 0, 0);
        x.part(4, 0, 0, 0);
        x.builder(1, 1);
        x.builder(1, 1);
        Check.refused("nothing is done of it", x, -3, () -> x.throwDown(0));
        x.send(0, 0);
        x.tick();
        Check.refused("1 is LEFT", x, -3, () -> x.throwDown(0));
        x.tick();
        x.send(1, 2);
        x.tick();
        Check.agreed("none NEEDS it that is begun; another is", x, 2, () -> x.throwDown(0));
        Check.due("LEFT is its WORK again", x.of(0, 4), 2);
        Check.due("it does not STAND", x.stands(0), 0);
        Check.due("what NEEDS it is not READY", x.stands(1), 5);
        Check.refused("it does not STAND", x, -3, () -> x.throwDown(0));
        x.undo();
        x.send(0, 1);
        Check.refused("a BUILDER is AT what NEEDS it", x, -3, () -> x.throwDown(0));
        x.rest(0);
        Check.agreed("none is AT it", x, 2, () -> x.throwDown(0));
        x.undo();
        x.send(0, 1);
        x.tick();
        x.rest(0);
        Check.due("one less than its WORK is LEFT", x.of(1, 4), 2);
        Check.refused("what NEEDS it has less LEFT than its WORK", x, -3, () -> x.throwDown(0));
        x.send(0, 1);
        x.tick();
        x.tick();
        Check.due("what NEEDS it STANDS, and 2 by now", x.stands(0), 7);
        Check.refused("what NEEDS it STANDS", x, -3, () -> x.throwDown(0));
        Check.agreed("it is thrown down itself", x, 3, () -> x.throwDown(1));
        Check.agreed("then the other", x, 2, () -> x.throwDown(0));
        int[] none = {-1, 3, 10, 32, Integer.MIN_VALUE, Integer.MAX_VALUE};
        for (int p : none) {
            Check.refused("no PART " + p, x, -2, () -> x.throwDown(p));
        }
    }

    /** Of ten PARTS the last NEEDS the first, or the last alone is thrown down. */
    private static void throwTheLast() {
        SunriseRoof x = new SunriseRoof();
        Check.fill(x, 9, 1);
        x.part(99, 256, 0, 0);
        x.send(0, 8);
        x.tick();
        Check.agreed("8, as none is AT 9", x, 1, () -> x.throwDown(8));
        x.undo();
        x.send(0, 9);
        Check.refused("8, as one is AT 9", x, -3, () -> x.throwDown(8));
        Check.rule(x, "works 20");
        Check.orders(x, "tick times 5");
        Check.refused("8, as 9 STANDS", x, -3, () -> x.throwDown(8));
        Check.agreed("9", x, 99, () -> x.throwDown(9));
        Check.due("all of it is LEFT", x.of(9, 4), 99);
    }

    /** "A tick (HOUR below 999) .. it is the next HOUR" */
    private static void lastHour() {
        SunriseRoof x = new SunriseRoof();
        x.part(2, 0, 0, 0);
        x.builder(1, 1);
        x.send(0, 0);
        x.terms(0, 998);
        Check.agreed("the last tick", x, 0, x::tick);
        Check.due("HOUR 999", x.count(13), 999);
        Check.due("it was worked", x.of(0, 4), 1);
        Check.refused("no tick at 999", x, -3, x::tick);
        Check.agreed("it can be undone", x, 3, x::undo);
        Check.due("HOUR 998", x.count(13), 998);
        Check.agreed("and done again", x, 0, x::tick);
        x.terms(0, 0);
        Check.agreed("the first", x, 1, x::tick);
        Check.due("HOUR 1", x.count(13), 1);
    }

    /** "LEFT is less by it, 0 at least .. Then all AT PARTS that STAND are AT none" */
    private static void works() {
        SunriseRoof x = new SunriseRoof();
        x.part(9, 0, 0, 0);
        x.part(10, 0, 0, 0);
        x.part(8, 0, 0, 0);
        x.builder(1, 9);
        x.builder(1, 9);
        x.builder(1, 9);
        x.builder(1, 1);
        x.send(0, 0);
        x.send(1, 1);
        x.send(2, 2);
        x.send(3, 1);
        Check.agreed("just all, all by two, more than all", x, 3, x::tick);
        Check.due("nothing is LEFT", x.of(0, 4) + x.of(1, 4) + x.of(2, 4), 0);
        for (int b = 0; b < 4; b++) {
            Check.due("AT none " + b, x.at(b, 3), -1);
            Check.due("TIRED " + b, x.at(b, 2), 1);
        }
        Check.agreed("none comes to STAND that does", x, 0, x::tick);
        SunriseRoof y = new SunriseRoof();
        y.part(10, 0, 0, 0);
        y.part(1, 0, 0, 0);
        y.builder(1, 9);
        y.builder(1, 1);
        y.send(0, 0);
        y.send(1, 1);
        Check.agreed("one of two", y, 1, y::tick);
        Check.due("1 is LEFT", y.of(0, 4), 1);
        Check.due("one stays AT it", y.at(0, 3), 0);
        Check.due("one is AT none", y.at(1, 3), -1);
        SunriseRoof z = new SunriseRoof();
        Check.fill(z, 6, 6);
        Check.orders(z, "send 0 to 0;send 1 to 1;send 2 to 2;send 3 to 3;send 4 to 4;send 5 to 5");
        Check.agreed("six at once", z, 6, z::tick);
        SunriseRoof empty = new SunriseRoof();
        Check.agreed("nobody, nothing", empty, 0, empty::tick);
    }

    /** Six AT one PART do all they can; "all this asked as it was ahead": of the others, of what is LEFT, of how TIRED they are, of the HOUR. */
    private static void askedAhead() {
        SunriseRoof x = new SunriseRoof();
        x.part(99, 0, 0, 0);
        for (int b = 0; b < 6; b++) {
            x.builder(1, 1);
            x.send(b, 0);
        }
        Check.rule(x, "works 1 if with=5 and left=99 and tired=0 and hour=0;works 0 if not (with=5 and left=99 and tired=0 and hour=0);tires 3 if hour=0 and left=99");
        x.tick();
        Check.due("all six were asked of the same", x.of(0, 4), 93);
        for (int b = 0; b < 6; b++) {
            Check.due("TIRED " + b, x.at(b, 2), 3);
        }
        x.tick();
        Check.due("and none in the next", x.of(0, 4), 93);
        Check.rule(x, "works 20");
        Check.agreed("99 at once", x, 1, x::tick);
        Check.due("0 at least", x.of(0, 4), 0);
    }

    /** "16 are kept": 15, 16, 17 and many more than 16. */
    private static void sixteen() {
        SunriseRoof x = new SunriseRoof();
        Check.refused("nothing was done", x, -3, x::undo);
        for (int i = 1; i <= 40; i++) {
            x.tick();
            Check.due("kept of " + i, x.count(5), Math.min(i, 16));
        }
        for (int i = 1; i <= 16; i++) {
            Check.agreed("undone " + i, x, 3, x::undo);
            Check.due("HOUR", x.count(13), 40 - i);
            Check.due("kept", x.count(5), 16 - i);
        }
        Check.refused("the 17th", x, -3, x::undo);
        Check.due("HOUR 24 stays", x.count(13), 24);
    }

    /** What was undone makes room again; kinds come back in their order, all round. */
    private static void roundAndRound() {
        SunriseRoof x = new SunriseRoof();
        x.part(1, 0, 0, 0);
        x.part(50, 0, 0, 0);
        x.builder(1, 1);
        x.builder(1, 1);
        for (int round = 0; round < 9; round++) {
            x.send(0, 0);
            x.tick();
            x.throwDown(0);
            x.send(1, 1);
            x.rest(1);
            Check.due("rest()", x.undo(), 1);
            Check.due("AT 1 again", x.at(1, 3), 1);
            x.rest(1);
        }
        int[] kinds = {1, 0, 2, 3, 0};
        for (int i = 0; i < 16; i++) {
            Check.due("undone " + i, x.undo(), kinds[i % 5]);
        }
        Check.due("no more", x.undo(), -3);
        Check.due("HOUR: 9 less the three that were undone", x.count(13), 6);
        Check.due("what is LEFT of 0", x.of(0, 4), 1);
        Check.due("1 is AT what it was", x.at(1, 3), 1);
    }

    /** "nothing that was ahead of a part(), builder(), row(), terms() that was not REFUSED can be undone" */
    private static void forgotten() {
        SunriseRoof x = new SunriseRoof();
        Check.fill(x, 9, 5);
        x.tick();
        x.part(100, 0, 0, 0);
        x.builder(16, 1);
        x.row();
        x.terms(0, 1000);
        Check.due("REFUSED ones leave it", x.count(5), 1);
        x.tick();
        x.part(1, 0, 0, 0);
        Check.refused("part()", x, -3, x::undo);
        x.tick();
        x.builder(1, 1);
        Check.refused("builder()", x, -3, x::undo);
        x.tick();
        x.part(1, 0, 0, 0);
        x.builder(1, 1);
        Check.due("those REFUSED by -5 leave it", x.count(5), 1);
        Check.feed(x, new byte[] {1});
        x.row();
        Check.refused("row() of CHAFF alone", x, -3, x::undo);
        x.tick();
        x.terms(2, 2);
        Check.refused("terms() that changes nothing", x, -3, x::undo);
        x.tick();
        x.send(0, 0);
        Check.agreed("what came behind it can be", x, 0, x::undo);
        Check.agreed("what came behind it can be", x, 3, x::undo);
        Check.refused("but no more", x, -3, x::undo);
    }

    public static void main(String[] args) {
        ready();
        send();
        rest();
        throwDown();
        throwTheLast();
        lastHour();
        works();
        askedAhead();
        sixteen();
        roundAndRound();
        forgotten();
        Check.finish("TermsThreeDeedsTest");
    }
}
