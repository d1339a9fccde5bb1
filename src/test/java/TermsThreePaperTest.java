/** Terms III, sentence by sentence, of what is on paper: CHAIN, ROWS, PLAN, HANDS, TAUGHT, UNSEEN, WHOSE, LOOK. */
public final class TermsThreePaperTest {
    private static final long ALL = 1_000_000_000_000L;

    /** Brings a PART to STAND by BUILDER 0, in one tick. */
    private static void build(SunriseRoof x, int p) {
        Check.rule(x, "works 20");
        x.send(0, p);
        while (x.of(p, 4) > 0) {
            x.tick();
        }
        x.force(-1);
    }

    /** "the CHAIN of a PART: what is LEFT of it, and the longest CHAIN of those that NEED it (and do not STAND) together; the LONGEST" */
    private static void chain() {
        SunriseRoof x = new SunriseRoof();
        Check.due("no PART: no CHAIN", x.of(0, 6), -1);
        Check.due("no PART: the LONGEST", x.longest(), 0);
        x.part(1, 0, 0, 0);
        Check.due("one of 1", x.of(0, 6) * 10 + x.longest(), 11);
        x.part(99, 1, 0, 0);
        x.part(98, 1, 0, 0);
        x.part(2, 4, 0, 0);
        Check.due("98 and 2 are longer than 99", x.of(0, 6), 101);
        Check.due("of 1", x.of(1, 6), 99);
        Check.due("of 2", x.of(2, 6), 100);
        x.builder(1, 1);
        build(x, 0);
        Check.due("of one that STANDS: nothing is LEFT of it", x.of(0, 6), 100);
        Check.due("the LONGEST", x.longest(), 100);
        build(x, 2);
        Check.due("one that STANDS is not in it", x.of(0, 6), 99);
        Check.due("it has its own", x.of(2, 6), 2);
        build(x, 1);
        Check.due("the LONGEST of what is LEFT", x.longest(), 2);
        Check.due("not by one that STANDS", x.of(0, 6), 0);
        build(x, 3);
        Check.due("all STAND", x.longest(), 0);
        Check.due("all STAND", x.of(2, 6), 0);
        SunriseRoof y = new SunriseRoof();
        for (int p = 0; p < 10; p++) {
            y.part(99, p == 0 ? 0 : 1 << p - 1, 0, 0);
        }
        Check.due("the LONGEST that can be", y.longest(), 990);
        Check.due("its first", y.of(0, 6), 990);
        Check.due("its last", y.of(9, 6), 99);
    }

    /** "ROWS: in how many orders all PARTS that do not STAND can be built one by one (each READY then); the i-th as rows of numbers go" */
    private static void rows() {
        SunriseRoof x = new SunriseRoof();
        Check.due("of no PART one", x.rows(-1, 0), 1);
        Check.due("it has no place", x.rows(0, 0), -1);
        Check.fill(x, 1, 1);
        Check.due("of one PART one", x.rows(-1, 0), 1);
        Check.due("its place", x.rows(0, 0), 0);
        Check.due("no place more", x.rows(0, 1), -1);
        Check.due("no row more", x.rows(1, 0), -1);
        x.part(1, 0, 0, 0);
        x.part(1, 2, 0, 0);
        int[] due = {12, 102, 120};
        Check.due("three", x.rows(-1, 0), 3);
        for (int i = 0; i < 3; i++) {
            Check.due("row " + i, x.rows(i, 0) * 100 + x.rows(i, 1) * 10 + x.rows(i, 2), due[i]);
            Check.due("no 4th place", x.rows(i, 3), -1);
        }
        Check.due("no 4th row", x.rows(3, 0), -1);
        build(x, 1);
        Check.due("two, when 1 STANDS", x.rows(-1, 0), 2);
        Check.due("0 and 2", x.rows(0, 0) * 10 + x.rows(0, 1), 2);
        Check.due("2 and 0", x.rows(1, 0) * 10 + x.rows(1, 1), 20);
        Check.due("no 3rd place", x.rows(0, 2), -1);
        build(x, 0);
        build(x, 2);
        Check.due("one, when all STAND", x.rows(-1, 0), 1);
        Check.due("it has no place", x.rows(0, 0), -1);
        int[] any = {Integer.MIN_VALUE, -2, -1, 0, 9, 10, Integer.MAX_VALUE};
        for (int place : any) {
            Check.due("how many, whatever the place", x.rows(-1, place), 1);
        }
        SunriseRoof y = new SunriseRoof();
        Check.fill(y, 10, 0);
        Check.due("the most that can be", y.rows(-1, 0), 3628800);
        Check.due("its last", y.rows(3628799, 0), 9);
        Check.due("the last place of it", y.rows(3628799, 9), 0);
        int[] no = {Integer.MIN_VALUE, -2, 3628800, Integer.MAX_VALUE};
        for (int i : no) {
            Check.due("no row " + i, y.rows(i, 0), -1);
        }
        int[] noPlace = {Integer.MIN_VALUE, -1, 10, Integer.MAX_VALUE};
        for (int place : noPlace) {
            Check.due("no place " + place, y.rows(0, place), -1);
        }
    }

    /** A site that one BUILDER at PACE 1 has built in so many ticks. */
    private static SunriseRoof lasting(int ticks) {
        SunriseRoof x = new SunriseRoof();
        for (int rest = ticks; rest > 0; rest -= 99) {
            x.part(Math.min(99, rest), 0, 0, 0);
        }
        x.builder(1, 1);
        return x;
    }

    /** "till all PARTS STAND (behind how many ticks; 200 at most)" */
    private static void planLimit() {
        int[] ticks = {1, 2, 99, 100, 199, 200};
        for (int t : ticks) {
            Check.due("in " + t, lasting(t).plan(-1), t);
        }
        Check.due("in 201", lasting(201).plan(-1), -1);
        SunriseRoof x = lasting(201);
        Check.due("0 behind 99", x.plan(0), 99);
        Check.due("1 behind 198", x.plan(1), 198);
        Check.due("2 not in 200", x.plan(2), -1);
        SunriseRoof y = lasting(200);
        Check.due("2 behind 200", y.plan(2), 200);
        SunriseRoof z = new SunriseRoof();
        Check.due("no PART: in none", z.plan(-1), 0);
        z.part(1, 0, 0, 0);
        Check.due("no BUILDER: never", z.plan(-1), -1);
        Check.due("no BUILDER: never", z.plan(0), -1);
        z.builder(1, 1);
        build(z, 0);
        Check.due("all STAND: in none", z.plan(-1), 0);
        Check.due("it STANDS now", z.plan(0), 0);
        int[] none = {Integer.MIN_VALUE, -2, 1, 10, Integer.MAX_VALUE};
        for (int p : none) {
            Check.due("no PART " + p, z.plan(p), -1);
        }
    }

    /** "A tick (HOUR below 999)": the PLAN's are ticks. */
    private static void planHour() {
        SunriseRoof x = lasting(200);
        x.terms(0, 799);
        Check.due("till HOUR 999", x.plan(-1), 200);
        x.terms(0, 800);
        Check.due("not behind it", x.plan(-1), -1);
        Check.due("but what STANDS by then", x.plan(1), 198);
        x.terms(0, 999);
        Check.due("no tick at all", x.plan(0), -1);
    }

    /** "BUILDERS by numbers that are AT none .. on which they WORK 1 or more, of the longest CHAIN (as it is now LEFT), the lowest" */
    private static void planSends() {
        SunriseRoof x = new SunriseRoof();
        x.part(3, 0, 0, 0);
        x.part(4, 0, 0, 0);
        x.part(4, 0, 0, 0);
        x.builder(1, 1);
        Check.due("of the longest CHAIN the lowest", x.plan(1), 4);
        Check.due("then the next", x.plan(2), 8);
        Check.due("then the rest", x.plan(0), 11);
        x.send(0, 1);
        Check.orders(x, "tick times 2");
        Check.due("as it is now LEFT", x.plan(2), 4);
        Check.due("as it is now LEFT", x.plan(0), 7);
        Check.due("as it is now LEFT", x.plan(1), 9);
        SunriseRoof y = new SunriseRoof();
        y.part(9, 0, 1, 0);
        y.part(1, 0, 0, 0);
        y.builder(1, 1);
        Check.due("where it WORKS 0 it is not sent", y.plan(1), 1);
        Check.rule(y, "works 1");
        Check.due("where it WORKS 1 it is", y.plan(0) * 100 + y.plan(1), 910);
        Check.rule(y, "works 1;bars if part=0 and hour<1");
        Check.due("BARRED in the first tick", y.plan(1) * 100 + y.plan(0), 110);
        Check.rule(y, "works 0-1");
        Check.due("nobody WORKS", y.plan(-1), -1);
        SunriseRoof z = new SunriseRoof();
        z.part(2, 0, 0, 0);
        z.part(1, 0, 0, 0);
        z.builder(1, 1);
        z.builder(1, 1);
        Check.rule(z, "works 1 if with=0;works 0 if with>0");
        Check.due("by numbers: 0 first, 1 where it WORKS still", z.plan(0) * 10 + z.plan(1), 21);
    }

    /** "(all of them at first, wherever they are now; TIRED as now)", and of HANDS "all others left at home" */
    private static void asNow() {
        SunriseRoof x = new SunriseRoof();
        x.part(9, 0, 0, 0);
        x.part(3, 0, 0, 0);
        x.builder(1, 1);
        x.builder(1, 1);
        x.send(0, 1);
        x.send(1, 1);
        Check.due("both go to 0 first", x.plan(0) * 100 + x.plan(1), 507);
        Check.due("and stay where they are now", x.at(0, 3) * 10 + x.at(1, 3), 11);
        Check.rule(x, "works 3 if with=0;works 0 if with>0;tires 0");
        Check.due("0 to 0; 1 WORKS where it is alone", x.plan(0) * 10 + x.plan(1), 31);
        Check.due("who is left at home is not with anybody", x.hands(0) * 10 + x.hands(1), 11);
        x.rest(0);
        x.rest(1);
        Check.rule(x, "works 0 if tired>1;works 1 if tired<2;tires 0");
        Check.due("not TIRED", x.plan(0) * 100 + x.plan(1), 507);
        Check.rule(x, "works 0;tires 4");
        x.send(0, 0);
        x.send(1, 0);
        x.tick();
        x.force(1);
        Check.due("TIRED as now: they rest till they WORK again, two ticks later", x.plan(0), 7);
        Check.due("on paper alone", x.at(0, 2) * 10 + x.at(0, 3), 40);
        Check.due("and are seen in none of these", x.unseen(2), ALL);
        Check.due("but in the third", x.unseen(3), 810_000_000_000L);
    }

    /** "HANDS: the fewest BUILDERS .. by whom the PLAN has all standing in NIGHT ticks; the lowest as bits" */
    private static void hands() {
        SunriseRoof x = new SunriseRoof();
        Check.due("nothing to build", x.hands(0) * 10 + x.hands(1), 0);
        x.part(10, 0, 0, 0);
        Check.due("nobody", x.hands(0), -1);
        Check.due("nobody", x.hands(1), -1);
        x.builder(2, 9);
        Check.due("nobody who can", x.hands(0), -1);
        x.builder(1, 1);
        x.terms(1, 10);
        Check.due("in just NIGHT ticks", x.hands(0) * 10 + x.hands(1), 12);
        x.terms(1, 9);
        Check.due("one less is not enough", x.hands(0), -1);
        Check.due("one less is not enough", x.hands(1), -1);
        x.builder(1, 1);
        Check.due("two", x.hands(0) * 10 + x.hands(1), 26);
        x.terms(1, 5);
        Check.due("two have it in 5", x.hands(0) * 10 + x.hands(1), 26);
        x.terms(1, 4);
        Check.due("not in 4", x.hands(0), -1);
        SunriseRoof y = new SunriseRoof();
        y.part(6, 0, 0, 0);
        for (int b = 0; b < 6; b++) {
            y.builder(1, 1);
        }
        y.terms(1, 1);
        Check.due("all six", y.hands(0) * 100 + y.hands(1), 663);
        y.terms(1, 2);
        Check.due("three, the lowest", y.hands(0) * 100 + y.hands(1), 307);
        y.terms(1, 6);
        Check.due("one, the lowest", y.hands(0) * 100 + y.hands(1), 101);
        build(y, 0);
        Check.due("all STAND: nobody", y.hands(0) * 100 + y.hands(1), 0);
        SunriseRoof z = lasting(99);
        z.terms(1, 99);
        Check.due("in 99", z.hands(0), 1);
        z.part(1, 0, 0, 0);
        Check.due("not in 100", z.hands(0), -1);
        int[] no = {Integer.MIN_VALUE, -1, 2, Integer.MAX_VALUE};
        for (int what : no) {
            Check.due("hands(" + what + ")", y.hands(what), -1);
        }
    }

    /** Of as many BUILDERS it is the lowest as bits, not who has the lowest numbers: {1, 2} (6) goes ahead of {0, 3} (9). */
    private static void lowestAsBits() {
        SunriseRoof x = new SunriseRoof();
        x.part(4, 0, 0, 0);
        x.part(4, 0, 1, 0);
        x.builder(1, 2);
        x.builder(1, 2);
        x.builder(2, 2);
        x.builder(2, 2);
        x.terms(1, 2);
        Check.due("{0, 2}", x.hands(1), 5);
        SunriseRoof y = new SunriseRoof();
        y.part(4, 0, 0, 0);
        y.part(4, 0, 1, 0);
        y.builder(1, 2);
        y.builder(1, 2);
        y.builder(2, 2);
        y.builder(2, 2);
        y.terms(1, 2);
        Check.rule(y, "bars if builder=0 and hour=0 or builder=2 and hour=0");
        Check.due("{1, 3}", y.hands(1), 10);
        Check.rule(y, "works 0 if builder=1;works 0 if builder=2;bars if mood=9");
        Check.due("{0, 3}", y.hands(1), 9);
        Check.rule(y, "works 2;works 1 if builder=0;works 1 if builder=3");
        Check.due("{1, 2} has both in 2", y.hands(0) * 100 + y.hands(1), 206);
        y.terms(1, 4);
        Check.due("{1} has both in 4", y.hands(0) * 100 + y.hands(1), 102);
        y.terms(1, 3);
        Check.due("{0, 1} has not in 3", y.hands(0) * 100 + y.hands(1), 206);
        SunriseRoof z = new SunriseRoof();
        int[] crafts = {3, 5, 10, 12};
        for (int i = 0; i < 4; i++) {
            z.part(1, 0, i, 0);
            z.builder(crafts[i], 1);
        }
        Check.due("{1, 2}, not {0, 3}", z.hands(0) * 100 + z.hands(1), 206);
    }

    /** "TAUGHT: .. done soonest, as long as that is sooner than without; the lowest BUILDER, then CRAFT" */
    private static void taught() {
        SunriseRoof x = new SunriseRoof();
        lesson("nobody, nothing", x, -1, -1, -1);
        x.part(4, 0, 3, 0);
        lesson("nobody", x, -1, -1, -1);
        x.builder(15, 1);
        lesson("one who has all", x, -1, -1, -1);
        x.builder(1, 1);
        lesson("4 ticks, then 2", x, 1, 3, 2);
        x.builder(2, 1);
        lesson("the lowest BUILDER", x, 1, 3, 2);
        x.builder(4, 2);
        lesson("4 ticks, then 2 either way", x, 1, 3, 2);
        x.builder(4, 3);
        lesson("1 tick by the last", x, 4, 3, 1);
        SunriseRoof y = new SunriseRoof();
        y.part(10, 0, 1, 0);
        y.part(10, 1, 2, 0);
        y.builder(6, 5);
        y.builder(1, 5);
        lesson("the lowest CRAFT of two that help as much", y, 1, 1, 3);
        SunriseRoof z = new SunriseRoof();
        z.part(1, 0, 0, 0);
        z.builder(1, 1);
        z.builder(2, 9);
        lesson("no sooner than in one", z, -1, -1, -1);
        z.part(1, 0, 0, 0);
        lesson("two, as both go to the same", z, -1, -1, -1);
        SunriseRoof one = new SunriseRoof();
        one.part(2, 0, 0, 0);
        one.builder(1, 1);
        one.builder(2, 1);
        lesson("two, then one", one, 1, 0, 1);
        int[] no = {Integer.MIN_VALUE, -1, 3, Integer.MAX_VALUE};
        for (int what : no) {
            Check.due("taught(" + what + ")", z.taught(what), -1);
        }
        SunriseRoof late = new SunriseRoof();
        late.part(99, 0, 3, 0);
        late.part(99, 0, 3, 0);
        late.part(2, 0, 3, 0);
        late.builder(1, 1);
        lesson("never without, in 200 with", late, 0, 3, 200);
        late.part(1, 0, 0, 0);
        lesson("not in 201", late, -1, -1, -1);
    }

    private static void lesson(String text, SunriseRoof x, int builder, int craft, int ticks) {
        Check.due(text + ": the BUILDER", x.taught(0), builder);
        Check.due(text + ": the CRAFT", x.taught(1), craft);
        Check.due(text + ": ticks", x.taught(2), ticks);
    }

    /** "UNSEEN: the chance, of 1,000,000,000,000 parts, that in n ticks of the PLAN (till all STAND) nobody is seen .. each part is cut" */
    private static void unseen() {
        SunriseRoof x = new SunriseRoof();
        Check.due("nobody, nothing", x.unseen(0), ALL);
        Check.due("nobody, nothing", x.unseen(99), ALL);
        int[] no = {Integer.MIN_VALUE, -1, 100, Integer.MAX_VALUE};
        for (int n : no) {
            Check.due("n " + n, x.unseen(n), -1);
        }
        x.part(99, 0, 0, 0);
        Check.due("nobody", x.unseen(99), ALL);
        x.builder(1, 1);
        long chance = ALL;
        for (int n = 0; n <= 99; n++) {
            Check.due("in " + n, x.unseen(n), chance);
            chance = chance * 9 / 10;
        }
        Check.rule(x, "shows 0");
        Check.due("SHOWS in none of ten", x.unseen(99), ALL);
        Check.rule(x, "shows 10");
        Check.due("SHOWS in ten of ten, in no tick", x.unseen(0), ALL);
        Check.due("SHOWS in ten of ten", x.unseen(1), 0);
        Check.rule(x, "shows 9");
        Check.due("one part of all", x.unseen(12), 1);
        Check.due("which is cut", x.unseen(13), 0);
        x.builder(1, 1);
        Check.rule(x, "shows 7;tires 0");
        chance = ALL;
        for (int n = 0; n <= 25; n++) {
            Check.due("two, each cut, in " + n, x.unseen(n), chance);
            chance = chance * 3 / 10 * 3 / 10;
        }
        SunriseRoof y = lasting(3);
        Check.due("till all STAND", y.unseen(3), 729_000_000_000L);
        Check.due("not behind it", y.unseen(4), 729_000_000_000L);
        Check.due("not behind it", y.unseen(99), 729_000_000_000L);
        y.builder(2, 1);
        Check.due("one AT none is not seen", y.unseen(1), 900_000_000_000L);
    }

    /** "WHOSE: sets of BUILDERS by whose PLAN (as HANDS) all SIGHTS are so (behind its end all stays)" */
    private static void whose() {
        SunriseRoof x = new SunriseRoof();
        Check.due("nobody: one set", x.whose(-1), 1);
        Check.due("which is empty", x.whose(0), 0);
        Check.due("no other", x.whose(1), -1);
        x.part(99, 0, 0, 0);
        for (int b = 0; b < 6; b++) {
            x.builder(1, 1);
        }
        Check.due("all sets of six", x.whose(-1), 64);
        Check.due("the first", x.whose(0), 0);
        Check.due("the last", x.whose(63), 63);
        int[] no = {Integer.MIN_VALUE, -2, 64, Integer.MAX_VALUE};
        for (int i : no) {
            Check.due("no set " + i, x.whose(i), -1);
        }
        x.sight(99, 0, 1);
        Check.due("behind 99 by all but nobody", x.whose(-1), 63);
        Check.due("the first", x.whose(0), 1);
        x.sight(98, 0, 0);
        Check.due("not behind 98: one alone", x.whose(-1), 6);
        Check.due("the last of them", x.whose(5), 32);
        Check.due("no more", x.whose(6), -1);
        x.sight(0, 0, 0);
        Check.due("nothing STANDS now", x.whose(-1), 6);
        x.sight(0, 0, 1);
        Check.due("and so none", x.whose(-1), 0);
        Check.due("none", x.whose(0), -1);
        x.forget();
        x.sight(17, 0, 1);
        x.sight(16, 0, 0);
        Check.due("behind 17, not 16: all six", x.whose(-1) * 100 + x.whose(0), 163);
        build(x, 0);
        x.forget();
        x.sight(0, 0, 1);
        x.sight(99, 0, 1);
        Check.due("it STANDS now and stays", x.whose(-1), 64);
        x.sight(50, 0, 0);
        Check.due("so it never does not", x.whose(-1), 0);
    }

    /** "To LOOK: the tick 0 .. 40 behind which of these sets the most that have as many PARTS standing are as few as can be; the earliest" */
    private static void look() {
        SunriseRoof x = new SunriseRoof();
        looks("one set, nothing", x, 0, 1);
        x.part(1, 0, 0, 0);
        looks("one set", x, 0, 1);
        x.builder(1, 1);
        looks("two, told apart behind 1", x, 1, 1);
        x.builder(2, 1);
        looks("four, two of them by one who does nothing", x, 1, 2);
        x.sight(1, 0, 1);
        looks("two that can't be told apart", x, 0, 2);
        x.sight(1, 0, 0);
        looks("no sets", x, -1, -1);
        int[] no = {Integer.MIN_VALUE, -1, 2, Integer.MAX_VALUE};
        for (int what : no) {
            Check.due("look(" + what + ")", x.look(what), -1);
        }
        looks("behind 39", lasting(39), 39, 1);
        looks("behind 40", lasting(40), 40, 1);
        looks("not behind 41", lasting(41), 0, 2);
        SunriseRoof y = new SunriseRoof();
        y.part(12, 0, 0, 0);
        y.part(12, 1, 0, 0);
        y.builder(1, 3);
        y.builder(1, 2);
        // {0} has the PARTS behind 4, 8; {1} behind 6, 12; both behind 3, 6.
        // Behind 3 one set has one; behind 4 two have one; behind 6 sets have 0, 1, 1, 2; behind 8 0, 2, 1, 2.
        looks("the earliest of the fewest", y, 4, 2);
        SunriseRoof z = new SunriseRoof();
        z.part(41, 0, 0, 0);
        for (int b = 0; b < 6; b++) {
            z.builder(2, 1);
        }
        looks("64 that can't be told apart", z, 0, 64);
    }

    private static void looks(String text, SunriseRoof x, int tick, int most) {
        Check.due(text + ": the tick", x.look(0), tick);
        Check.due(text + ": left at most", x.look(1), most);
    }

    public static void main(String[] args) {
        chain();
        rows();
        planLimit();
        planHour();
        planSends();
        asNow();
        hands();
        lowestAsBits();
        taught();
        unseen();
        whose();
        look();
        Check.finish("TermsThreePaperTest");
    }
}
