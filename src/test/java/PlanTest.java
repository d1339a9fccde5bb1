/** Promises 25, 26, 27, 28: the plan, hands, taught, unseen. */
public final class PlanTest {
    private static void plain() {
        SunriseRoof x = new SunriseRoof();
        Check.due("nothing to build", x.plan(-1), 0);
        x.part(4, 0, 0, 0);
        x.part(6, 0, 0, 0);
        x.part(3, 2, 1, 0);
        Check.due("nobody builds", x.plan(-1), -1);
        Check.due("not in 200", x.plan(0), -1);
        x.builder(1, 2);
        x.builder(3, 1);
        // Both go to 1 (chain 9) and are done behind 2; then both to 0 (chain 4, longer than 3); then 1 goes to 2.
        Check.due("1 stands behind 2", x.plan(1), 2);
        Check.due("0 stands behind 4", x.plan(0), 4);
        Check.due("2 stands behind 7", x.plan(2), 7);
        Check.due("all", x.plan(-1), 7);
        Check.due("no part 3", x.plan(3), -1);
        Check.due("part -2", x.plan(-2), -1);
        Check.due("it is on paper", x.count(13) + x.stands(0) + x.at(0, 2), 0);
        Check.due("and nothing can be undone", x.count(5), 0);
        x.send(0, 0);
        Check.due("wherever they are now", x.plan(1), 2);
        x.tick();
        x.tick();
        Check.due("0 stands now", x.plan(0), 0);
        Check.due("all, as it is left", x.plan(-1), 5);
        Check.due("it was not moved", x.at(0, 3), -1);
    }

    private static void asOfNow() {
        SunriseRoof x = new SunriseRoof();
        x.part(8, 0, 0, 0);
        x.part(4, 1, 0, 0);
        x.builder(1, 2);
        Check.due("plan", x.plan(-1), 6);
        Check.due("taught", x.taught(0), -1);
        Check.due("hands", x.hands(1), 1);
        Check.due("rows", x.rows(0, 0), 0);
        x.send(0, 0);
        Check.due("nothing came to stand", x.tick(), 0);
        Check.due("plan behind a tick", x.plan(-1), 5);
        x.undo();
        Check.due("plan behind undo", x.plan(-1), 6);
        Check.orders(x, "tick times 4");
        Check.due("plan behind orders", x.plan(-1), 2);
        Check.due("rows behind orders", x.rows(0, 0), 1);
        x.throwDown(0);
        Check.due("plan behind throwDown", x.plan(-1), 6);
        x.builder(1, 6);
        Check.due("plan behind builder", x.plan(-1), 2);
        Check.rule(x, "works 1");
        Check.due("plan behind force", x.plan(-1), 6);
        x.terms(0, 999);
        Check.due("plan behind terms", x.plan(-1), -1);
    }

    private static void ties() {
        SunriseRoof x = new SunriseRoof();
        x.part(5, 0, 0, 0);
        x.part(5, 0, 0, 0);
        x.part(2, 0, 1, 0);
        x.builder(1, 5);
        Check.due("the lowest of the same chain", x.plan(0), 1);
        Check.due("then the other", x.plan(1), 2);
        Check.due("one that none can", x.plan(2), -1);
        Check.due("so never all", x.plan(-1), -1);
        Check.rule(x, "bars if part=0 and hour<3; works 2 if part=2");
        // Barred from 0 till hour 3: 1 in tick 1, 2 in tick 2, rests in tick 3, 0 in tick 4.
        Check.due("barred", x.plan(0), 4);
        Check.due("1 first", x.plan(1), 1);
        Check.due("a law works without the craft", x.plan(2), 2);
        Check.due("all", x.plan(-1), 4);
    }

    private static void limits() {
        SunriseRoof x = new SunriseRoof();
        x.part(99, 0, 0, 0);
        x.part(99, 1, 0, 0);
        x.part(2, 2, 0, 0);
        x.builder(1, 1);
        Check.due("just 200", x.plan(-1), 200);
        x.part(1, 0, 0, 0);
        Check.due("201 are too many", x.plan(-1), -1);
        Check.due("behind 99", x.plan(0), 99);
        Check.due("behind 200", x.plan(2), 200);
        Check.due("not in 200", x.plan(3), -1);
        Check.due("not in the night", x.hands(0), -1);
        SunriseRoof y = new SunriseRoof();
        y.part(4, 0, 0, 0);
        y.builder(1, 2);
        y.terms(0, 997);
        Check.due("two ticks till the last hour", y.plan(-1), 2);
        y.terms(0, 998);
        Check.due("no tick behind the last hour", y.plan(-1), -1);
        Check.due("seen in one alone", y.unseen(9), 900000000000L);
    }

    private static void tired() {
        SunriseRoof x = new SunriseRoof();
        x.part(6, 0, 0, 0);
        x.part(3, 0, 0, 0);
        x.builder(1, 3);
        x.builder(1, 1);
        Check.rule(x, "works 0 if tired>1; tires 2");
        // Both go to 0, do 4 and are too tired from tick 2 on, where they stay.
        Check.due("those at a part stay there", x.plan(-1), -1);
        Check.rule(x, "bars if with>0; tires 9");
        // 0 goes to 0, 1 may not join it and goes to 1: behind 2 0 stands, behind 3 1.
        Check.due("0", x.plan(0), 2);
        Check.due("1", x.plan(1), 3);
    }

    private static void hands() {
        SunriseRoof x = new SunriseRoof();
        Check.due("nobody for nothing", x.hands(0), 0);
        Check.due("as bits", x.hands(1), 0);
        x.part(12, 0, 0, 0);
        x.part(1, 0, 1, 0);
        x.builder(1, 1);
        x.builder(1, 3);
        x.builder(2, 1);
        x.builder(3, 2);
        x.terms(1, 7);
        Check.due("3 alone has it in 7", x.hands(0), 1);
        Check.due("as bits", x.hands(1), 8);
        x.terms(1, 6);
        Check.due("two have it in 6", x.hands(0), 2);
        Check.due("the lowest as bits: 1 and 2", x.hands(1), 6);
        x.terms(1, 3);
        Check.due("three", x.hands(0), 3);
        Check.due("0, 1 and 2 have it in 3", x.hands(1), 7);
        x.terms(1, 1);
        Check.due("nobody", x.hands(0), -1);
        Check.due("nobody", x.hands(1), -1);
        Check.due("hands(2)", x.hands(2), -1);
        Check.due("hands(-1)", x.hands(-1), -1);
    }

    private static void taught() {
        SunriseRoof x = new SunriseRoof();
        x.part(8, 0, 0, 0);
        x.part(8, 0, 1, 0);
        x.builder(1, 1);
        x.builder(2, 2);
        x.builder(8, 2);
        // Without: 0 has part 0 in 8, 1 part 1 in 4. With craft 0 for 1: part 0 first, 3 a tick, then 1: 3 and 4.
        // With craft 0 for 2: 3 ticks of both, part 1 in 4.
        Check.due("ticks without", x.plan(-1), 8);
        Check.due("to 2", x.taught(0), 2);
        Check.due("craft 0", x.taught(1), 0);
        Check.due("ticks", x.taught(2), 4);
        Check.due("taught(3)", x.taught(3), -1);
        Check.due("taught(-1)", x.taught(-1), -1);
        Check.due("nobody was taught", x.at(2, 0), 8);
        SunriseRoof y = new SunriseRoof();
        y.part(4, 0, 3, 0);
        y.builder(1, 2);
        y.builder(2, 2);
        Check.due("never without", y.plan(-1), -1);
        Check.due("the lowest", y.taught(0), 0);
        Check.due("craft 3", y.taught(1), 3);
        Check.due("ticks", y.taught(2), 2);
        SunriseRoof z = new SunriseRoof();
        z.part(4, 0, 0, 0);
        z.builder(15, 9);
        Check.due("none helps", z.taught(0), -1);
        Check.due("none helps", z.taught(1), -1);
        Check.due("none helps", z.taught(2), -1);
        z.builder(2, 9);
        Check.due("no sooner than one tick", z.taught(0), -1);
        z.part(10, 0, 2, 0);
        // By 0 alone three ticks; two if 1 has craft 0 or craft 2.
        Check.due("asked anew behind a part", z.taught(0), 1);
        Check.due("the lowest craft", z.taught(1), 0);
        Check.due("ticks", z.taught(2), 2);
    }

    /** What a lesson on paper must not leave behind. */
    private static void afterLessons() {
        SunriseRoof x = new SunriseRoof();
        x.part(6, 0, 3, 0);
        x.builder(7, 3);
        Check.due("craft 3", x.taught(1), 3);
        Check.due("unseen, as nobody can", x.unseen(9), 1000000000000L);
        x.terms(2, 0);
        Check.due("not in a night", x.nights(0, 1), 0);
        Check.due("no plan", x.plan(-1), -1);
        Check.due("no hands", x.hands(0), -1);
    }

    /** A lesson that gains one tick alone, then one that gains one more. */
    private static void smallGains() {
        SunriseRoof x = new SunriseRoof();
        x.part(30, 0, 0, 0);
        x.builder(1, 5);
        x.builder(2, 1);
        x.builder(2, 2);
        Check.due("ticks without", x.plan(-1), 6);
        Check.due("to 1 it is five, as it is to 2", x.taught(0), 1);
        Check.due("ticks", x.taught(2), 5);
        x.builder(2, 3);
        Check.due("to 3 it is four", x.taught(0), 3);
        Check.due("ticks", x.taught(2), 4);
    }

    private static void unseen() {
        SunriseRoof x = new SunriseRoof();
        Check.due("nothing to see", x.unseen(99), 1000000000000L);
        x.part(4, 0, 0, 0);
        x.part(2, 1, 0, 0);
        x.builder(1, 2);
        x.builder(2, 2);
        Check.due("in no tick", x.unseen(0), 1000000000000L);
        Check.due("one who is at a part", x.unseen(1), 900000000000L);
        Check.due("till all stand", x.unseen(99), 729000000000L);
        Check.due("n 100", x.unseen(100), -1);
        Check.due("n -1", x.unseen(-1), -1);
        Check.rule(x, "shows 3+hour");
        Check.due("asked ahead of each tick", x.unseen(3), 700000000000L * 6 / 10 * 5 / 10);
        Check.rule(x, "shows 10");
        Check.due("seen surely", x.unseen(1), 0);
        Check.rule(x, "shows with*3;works 1");
        // Both go to 0, where each shows 3: 0.49 a tick, 2 ticks; then to 1, 1 tick.
        Check.due("with whom", x.unseen(50), 117649000000L);
        SunriseRoof y = new SunriseRoof();
        y.part(99, 0, 0, 0);
        y.builder(1, 1);
        Check.rule(y, "shows 7");
        long chance = 1000000000000L;
        for (int t = 0; t < 30; t++) {
            chance = chance * 3 / 10;
        }
        Check.due("each part is cut", y.unseen(30), chance);
    }

    public static void main(String[] args) {
        plain();
        asOfNow();
        ties();
        limits();
        tired();
        hands();
        taught();
        afterLessons();
        smallGains();
        unseen();
        Check.finish("PlanTest");
    }
}
