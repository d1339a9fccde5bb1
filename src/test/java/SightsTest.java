/** Promises 29, 30, 31, 32: sights, whose hands they were, when to look next. */
public final class SightsTest {
    private static SunriseRoof site() {
        SunriseRoof x = new SunriseRoof();
        x.part(6, 0, 0, 0);
        x.part(2, 1, 1, 0);
        x.builder(1, 3);
        x.builder(3, 1);
        return x;
    }

    private static void sights() {
        SunriseRoof x = site();
        Check.due("k -1", x.sight(-1, 0, 0), -1);
        Check.due("k 100", x.sight(100, 0, 0), -1);
        Check.due("stood 2", x.sight(0, 0, 2), -1);
        Check.due("stood -1", x.sight(0, 0, -1), -1);
        Check.due("a number goes ahead of the part", x.sight(100, 5, 0), -1);
        Check.due("no part 2", x.sight(0, 2, 0), -2);
        Check.due("part -1", x.sight(0, -1, 0), -2);
        Check.due("status", x.status(), -2);
        for (int i = 1; i <= 8; i++) {
            Check.due("sight", x.sight(99, 0, i % 2), i);
        }
        Check.due("no room", x.sight(0, 0, 0), -5);
        Check.due("the part goes ahead of room", x.sight(0, 2, 0), -2);
        Check.due("count", x.count(3), 8);
        Check.due("no set", x.whose(-1), 0);
        Check.due("none", x.whose(0), -1);
        Check.due("no look", x.look(0), -1);
        Check.due("no look", x.look(1), -1);
        Check.due("forget", x.forget(), 8);
        Check.due("none", x.forget(), 0);
        Check.due("count", x.count(3), 0);
    }

    private static void whose() {
        SunriseRoof x = site();
        // Part 0 stands behind 2 by {0}, 6 by {1}, 2 by {0, 1}; part 1 behind 8 by {1}, 4 by {0, 1}.
        Check.due("all sets", x.whose(-1), 4);
        for (int i = 0; i < 4; i++) {
            Check.due("set " + i, x.whose(i), i);
        }
        Check.due("whose(4)", x.whose(4), -1);
        Check.due("whose(-2)", x.whose(-2), -1);
        x.sight(2, 0, 1);
        Check.due("{0} and {0, 1}", x.whose(-1) * 100 + x.whose(0) * 10 + x.whose(1), 213);
        x.sight(99, 1, 0);
        Check.due("{0}", x.whose(-1) * 10 + x.whose(0), 11);
        Check.due("none more", x.whose(1), -1);
        x.forget();
        x.sight(5, 0, 0);
        Check.due("{} and {1}", x.whose(-1) * 100 + x.whose(0) * 10 + x.whose(1), 202);
        x.sight(99, 1, 1);
        Check.due("{1}: behind its end all stays", x.whose(-1) * 10 + x.whose(0), 12);
        x.sight(7, 1, 1);
        Check.due("none", x.whose(-1), 0);
        x.forget();
        x.sight(0, 0, 1);
        Check.due("nothing stands now", x.whose(-1), 0);
    }

    private static void look() {
        SunriseRoof x = site();
        // Behind 2: {} and {1} have none, {0} and {0, 1} one. Behind 4: 0, 1, 0, 2. Behind 6: 0, 1, 1, 2.
        Check.due("the tick", x.look(0), 2);
        Check.due("two are left at most", x.look(1), 2);
        x.sight(99, 0, 1);
        // {0}, {1}, {0, 1}: behind 4 one, none, two.
        Check.due("the tick", x.look(0), 4);
        Check.due("one is left", x.look(1), 1);
        x.sight(5, 0, 0);
        Check.due("one set: look at once", x.look(0), 0);
        Check.due("it is left", x.look(1), 1);
        Check.due("look(2)", x.look(2), -1);
        Check.due("look(-1)", x.look(-1), -1);
    }

    private static void lateLook() {
        SunriseRoof x = new SunriseRoof();
        x.part(40, 0, 0, 0);
        x.builder(1, 1);
        Check.due("behind 40", x.look(0), 40);
        Check.due("one is left", x.look(1), 1);
        SunriseRoof y = new SunriseRoof();
        y.part(41, 0, 0, 0);
        y.builder(1, 1);
        Check.due("behind 41 nobody looks", y.look(0), 0);
        Check.due("both are left", y.look(1), 2);
    }

    private static void lateSights() {
        SunriseRoof x = new SunriseRoof();
        x.part(60, 0, 0, 0);
        x.part(5, 1, 0, 0);
        x.part(7, 0, 0, 0);
        x.builder(1, 1);
        Check.due("looked at ahead", x.look(1), 2);
        // 0 behind 60, then 2 (chain 7) behind 67, then 1 behind 72.
        x.sight(72, 1, 1);
        Check.due("1 behind 72", x.whose(-1) * 10 + x.whose(0), 11);
        x.sight(71, 1, 0);
        x.sight(67, 2, 1);
        x.sight(66, 2, 0);
        x.sight(60, 0, 1);
        x.sight(59, 0, 0);
        Check.due("all are so", x.whose(-1) * 10 + x.whose(0), 11);
        x.sight(66, 1, 1);
        Check.due("none", x.whose(-1), 0);
    }

    private static void allStanding() {
        SunriseRoof x = new SunriseRoof();
        for (int p = 0; p < 10; p++) {
            x.part(1, 0, 0, 0);
        }
        x.builder(1, 1);
        Check.due("one has one standing behind 1", x.look(0), 1);
        Check.orders(x, "send 0 to standing;tick;send 0 to standing;tick;send 0 to standing;tick;send 0 to standing;tick;send 0 to standing;tick");
        Check.orders(x, "send 0 to standing;tick;send 0 to standing;tick;send 0 to standing;tick;send 0 to standing;tick;send 0 to standing;tick");
        Check.due("all stand", x.count(1), 10);
        Check.due("nothing more to see", x.look(0), 0);
        Check.due("both are left", x.look(1), 2);
    }

    private static void asItIsNow() {
        SunriseRoof x = site();
        x.send(0, 0);
        x.tick();
        x.sight(1, 0, 1);
        Check.due("the plan goes from now", x.whose(-1) * 100 + x.whose(0) * 10 + x.whose(1), 213);
        x.undo();
        Check.due("and as it was", x.whose(-1), 0);
        x.terms(0, 999);
        x.forget();
        x.sight(99, 0, 0);
        Check.due("no tick behind the last hour", x.whose(-1), 4);
    }

    public static void main(String[] args) {
        sights();
        whose();
        look();
        lateLook();
        lateSights();
        allStanding();
        asItIsNow();
        Check.finish("SightsTest");
    }
}
