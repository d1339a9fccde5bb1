/** Promises 18, 19, 20, 21, 22: send, rest, throwDown, tick, undo. */
public final class DeedsTest {
    private static SunriseRoof site() {
        SunriseRoof x = new SunriseRoof();
        x.part(5, 0, 0, 0);
        x.part(4, 1, 0, 0);
        x.part(9, 0, 1, 0);
        x.builder(1, 3);
        x.builder(3, 2);
        return x;
    }

    private static void send() {
        SunriseRoof x = site();
        Check.due("no builder 2", x.send(2, 0), -2);
        Check.due("no part 3", x.send(0, 3), -2);
        Check.due("builder -1", x.send(-1, 0), -2);
        Check.due("part -1", x.send(0, -1), -2);
        Check.due("status", x.status(), -2);
        Check.due("not ready", x.send(0, 1), -3);
        Check.due("status", x.status(), -3);
        Check.due("sent", x.send(0, 0), 5);
        Check.due("at it", x.at(0, 3), 0);
        Check.due("sent on", x.send(0, 2), 9);
        Check.due("at it", x.at(0, 3), 2);
        Check.due("sent where it is", x.send(0, 2), 9);
        Check.due("three can be undone", x.count(5), 3);
        Check.rule(x, "bars if with>0 or part=2 and builder=1");
        Check.due("barred", x.send(1, 2), -3);
        Check.due("not barred", x.send(1, 0), 5);
        Check.due("barred, as another is at it", x.send(0, 0), -3);
        Check.due("not barred by itself", x.send(1, 0), 5);
        x.force(-1);
        x.tick();
        x.tick();
        x.tick();
        Check.due("stands", x.stands(0), 1);
        Check.due("what stands is not ready", x.send(0, 0), -3);
        Check.due("what needed it is", x.send(0, 1), 4);
    }

    private static void rest() {
        SunriseRoof x = site();
        Check.due("no builder", x.rest(2), -2);
        Check.due("builder -1", x.rest(-1), -2);
        Check.due("at none", x.rest(0), -3);
        x.send(0, 2);
        Check.due("it was at 2", x.rest(0), 2);
        Check.due("at none", x.at(0, 3), -1);
        Check.due("at none", x.rest(0), -3);
    }

    private static void tick() {
        SunriseRoof x = site();
        Check.due("nobody works", x.tick(), 0);
        Check.due("hour 1", x.count(13), 1);
        x.send(0, 0);
        x.send(1, 0);
        Check.due("both work, 0 at least is left", x.tick(), 1);
        Check.due("nothing is left", x.of(0, 4), 0);
        Check.due("0 is at none", x.at(0, 3), -1);
        Check.due("1 is at none", x.at(1, 3), -1);
        Check.due("0 is tired", x.at(0, 2), 1);
        x.tick();
        Check.due("2 less, 0 at least", x.at(0, 2), 0);
        x.send(0, 2);
        x.tick();
        Check.due("without the craft nothing is done", x.of(2, 4), 9);
        Check.due("but it tires", x.at(0, 2), 1);
        x.terms(0, 998);
        Check.due("the last tick", x.tick(), 0);
        Check.due("hour 999", x.count(13), 999);
        Check.due("no tick more", x.tick(), -3);
        Check.due("status", x.status(), -3);
        Check.due("hour 999", x.count(13), 999);
    }

    private static void askedAhead() {
        SunriseRoof x = new SunriseRoof();
        x.part(50, 0, 0, 0);
        x.part(1, 0, 0, 0);
        x.part(3, 0, 0, 0);
        x.builder(1, 1);
        x.builder(1, 1);
        x.builder(1, 1);
        Check.rule(x, "works left/10+with if part=0; tires 20 if part=0; works 0 if hour=2");
        x.send(0, 0);
        x.send(1, 0);
        x.send(2, 1);
        Check.due("one stands", x.tick(), 1);
        Check.due("both are asked as it was ahead", x.of(0, 4), 50 - 6 - 6);
        Check.due("tires by 20", x.at(0, 2), 20);
        x.send(2, 2);
        x.tick();
        Check.due("left 38: 3 and 1, twice", x.of(0, 4), 30);
        x.tick();
        Check.due("the hour is asked as it was ahead", x.of(0, 4), 30);
        x.tick();
        x.tick();
        Check.due("99 at most", x.at(0, 2), 99);
        Check.due("tires 1 elsewhere", x.at(2, 2), 5);
    }

    private static void throwDown() {
        SunriseRoof x = site();
        Check.due("no part", x.throwDown(3), -2);
        Check.due("part -1", x.throwDown(-1), -2);
        Check.due("it does not stand", x.throwDown(0), -3);
        x.send(0, 0);
        x.tick();
        Check.due("begun alone", x.throwDown(0), -3);
        x.tick();
        Check.due("thrown down", x.throwDown(0), 5);
        Check.due("all is left", x.of(0, 4), 5);
        x.send(0, 0);
        x.tick();
        x.tick();
        x.send(0, 1);
        Check.due("one is at what needs it", x.throwDown(0), -3);
        x.rest(0);
        Check.due("none is", x.throwDown(0), 5);
        x.undo();
        x.send(0, 1);
        x.tick();
        x.rest(0);
        Check.due("what needs it is begun", x.throwDown(0), -3);
        x.send(0, 1);
        Check.due("it stands", x.tick(), 1);
        Check.due("what needs it stands", x.throwDown(0), -3);
        Check.due("the upper one", x.throwDown(1), 4);
        Check.due("then the lower one", x.throwDown(0), 5);
        Check.due("nothing stands", x.stands(0), 0);
    }

    private static void undo() {
        SunriseRoof x = site();
        Check.due("nothing", x.undo(), -3);
        Check.due("status", x.status(), -3);
        x.send(0, 0);
        x.tick();
        x.tick();
        x.throwDown(0);
        x.send(0, 0);
        x.rest(0);
        Check.due("kept", x.count(5), 6);
        Check.due("a refused one is not kept", x.rest(0) + x.count(5), 3);
        Check.due("rest", x.undo(), 1);
        Check.due("at 0 again", x.at(0, 3), 0);
        Check.due("send", x.undo(), 0);
        Check.due("throwDown", x.undo(), 2);
        Check.due("it stands again", x.of(0, 4), 0);
        Check.due("tick", x.undo(), 3);
        Check.due("left", x.of(0, 4), 2);
        Check.due("at", x.at(0, 3), 0);
        Check.due("tired", x.at(0, 2), 1);
        Check.due("hour", x.count(13), 1);
        Check.due("two are left", x.count(5), 2);
        Check.due("tick", x.undo(), 3);
        Check.due("send", x.undo(), 0);
        Check.due("none", x.undo(), -3);
        Check.due("as at first", x.at(0, 3), -1);
    }

    private static void undoRoom() {
        SunriseRoof x = site();
        for (int i = 0; i < 20; i++) {
            x.tick();
        }
        Check.due("16 are kept", x.count(5), 16);
        for (int i = 0; i < 16; i++) {
            Check.due("tick", x.undo(), 3);
        }
        Check.due("no more", x.undo(), -3);
        Check.due("hour 4", x.count(13), 4);
        x.tick();
        x.part(0, 0, 0, 0);
        x.builder(0, 0);
        x.terms(9, 9);
        x.row();
        Check.due("refused calls leave it", x.count(5), 1);
        x.sight(0, 0, 0);
        x.image(0);
        Check.law(x, "bars");
        x.force(0);
        Check.due("others leave it", x.count(5), 1);
        x.part(1, 0, 0, 0);
        Check.due("part()", x.undo(), -3);
        x.tick();
        x.builder(1, 1);
        Check.due("builder()", x.undo(), -3);
        x.tick();
        x.terms(3, 0);
        Check.due("terms()", x.undo(), -3);
        x.tick();
        x.feed(0, 0, 0, 0, 0);
        x.row();
        Check.due("row()", x.undo(), -3);
        x.tick();
        x.back(0);
        Check.due("back()", x.undo(), -3);
    }

    private static void firstOnes() {
        SunriseRoof x = new SunriseRoof();
        x.tick();
        Check.due("part 0", x.part(1, 0, 0, 0), 0);
        Check.due("nothing ahead of it can be undone", x.undo(), -3);
        x.tick();
        Check.due("builder 0", x.builder(1, 1), 0);
        Check.due("nothing ahead of it can be undone", x.undo(), -3);
    }

    public static void main(String[] args) {
        send();
        rest();
        tick();
        askedAhead();
        throwDown();
        undo();
        undoRoom();
        firstOnes();
        Check.finish("DeedsTest");
    }
}
