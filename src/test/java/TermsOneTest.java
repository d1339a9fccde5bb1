/** Terms I, sentence by sentence: the least and the most of each number, what there is at first, nothing and full. */
public final class TermsOneTest {
    /** "PARTS 0 .. 9 (10 at most)" */
    private static void tenParts() {
        SunriseRoof x = new SunriseRoof();
        Check.due("no PART at first", x.count(0), 0);
        Check.due("not even 0", x.of(0, 0), -1);
        for (int p = 0; p < 10; p++) {
            Check.due("PART " + p + " is not there yet", x.of(p, 4), -1);
            Check.due("PART " + p, x.part(p + 1, 0, 0, 0), p);
            Check.due("PART " + p + " is there", x.of(p, 4), p + 1);
        }
        Check.refused("an 11th PART", x, -5, () -> x.part(1, 0, 0, 0));
        Check.due("ten PARTS", x.count(0), 10);
        Check.due("no PART 10", x.of(10, 0), -1);
        Check.due("PART 9 stays", x.of(9, 0), 10);
    }

    /** "WORK 1 .. 99", "a CRAFT 0 .. 3", "HEAVY 0 .. 9" */
    private static void numbersOfParts() {
        SunriseRoof x = new SunriseRoof();
        int[] notWork = {0, 100, -1, 257, -255, Integer.MIN_VALUE, Integer.MAX_VALUE};
        for (int w : notWork) {
            Check.refused("WORK " + w, x, -1, () -> x.part(w, 0, 0, 0));
        }
        int[] notCraft = {-1, 4, 32, 256, Integer.MIN_VALUE, Integer.MAX_VALUE};
        for (int c : notCraft) {
            Check.refused("CRAFT " + c, x, -1, () -> x.part(1, 0, c, 0));
        }
        int[] notHeavy = {-1, 10, 256, Integer.MIN_VALUE, Integer.MAX_VALUE};
        for (int h : notHeavy) {
            Check.refused("HEAVY " + h, x, -1, () -> x.part(1, 0, 0, h));
        }
        Check.agreed("the least", x, 0, () -> x.part(1, 0, 0, 0));
        Check.agreed("the most", x, 1, () -> x.part(99, 0, 3, 9));
        int[] least = {1, 0, 0, 0, 1};
        int[] most = {99, 0, 3, 9, 99};
        for (int what = 0; what < 5; what++) {
            Check.due("of(0, " + what + ")", x.of(0, what), least[what]);
            Check.due("of(1, " + what + ")", x.of(1, what), most[what]);
        }
    }

    /** "NEEDS: lower PARTS, as bits" */
    private static void needs() {
        SunriseRoof x = new SunriseRoof();
        for (int p = 0; p < 10; p++) {
            int own = 1 << p;
            Check.refused("PART " + p + " NEEDS itself", x, -1, () -> x.part(1, own, 0, 0));
            Check.refused("PART " + p + " NEEDS itself and all lower ones", x, -1, () -> x.part(1, 2 * own - 1, 0, 0));
            Check.refused("PART " + p + " NEEDS the next", x, -1, () -> x.part(1, 2 * own, 0, 0));
            Check.refused("PART " + p + " NEEDS bit 31", x, -1, () -> x.part(1, Integer.MIN_VALUE, 0, 0));
            Check.refused("PART " + p + " NEEDS -1", x, -1, () -> x.part(1, -1, 0, 0));
            Check.agreed("PART " + p + " NEEDS all lower ones", x, p, () -> x.part(1, own - 1, 0, 0));
            Check.due("NEEDS of " + p, x.of(p, 1), own - 1);
        }
        SunriseRoof y = new SunriseRoof();
        Check.fill(y, 9, 0);
        Check.agreed("PART 9 NEEDS 8 alone", y, 9, () -> y.part(1, 256, 0, 0));
    }

    /** "LEFT: WORK that is left (a PART STANDS, if none is)" */
    private static void left() {
        SunriseRoof x = new SunriseRoof();
        x.part(2, 0, 0, 0);
        x.builder(1, 1);
        x.send(0, 0);
        Check.due("all is LEFT at first", x.of(0, 4), 2);
        x.tick();
        Check.due("1 is LEFT", x.of(0, 4), 1);
        Check.due("so it does not STAND", x.stands(0) + x.count(1), 0);
        x.tick();
        Check.due("none is LEFT", x.of(0, 4), 0);
        Check.due("so it STANDS", x.stands(0) * 10 + x.count(1), 11);
    }

    /** "BUILDERS 0 .. 5 (6 at most): CRAFTS 1 .. 15 (bits), PACE 1 .. 9, TIRED 0 .. 99 (0 at first), AT a PART, or none (at first)" */
    private static void sixBuilders() {
        SunriseRoof x = new SunriseRoof();
        Check.due("no BUILDER at first", x.count(2), 0);
        int[] notCrafts = {0, 16, -1, 17, Integer.MIN_VALUE, Integer.MAX_VALUE};
        for (int c : notCrafts) {
            Check.refused("CRAFTS " + c, x, -1, () -> x.builder(c, 1));
        }
        int[] notPace = {0, 10, -1, 257, Integer.MIN_VALUE, Integer.MAX_VALUE};
        for (int p : notPace) {
            Check.refused("PACE " + p, x, -1, () -> x.builder(1, p));
        }
        for (int b = 0; b < 6; b++) {
            int odd = b % 2;
            Check.due("BUILDER " + b + " is not there yet", x.at(b, 0), -1);
            Check.agreed("BUILDER " + b, x, b, () -> x.builder(1 + 14 * odd, 1 + 8 * odd));
            Check.due("CRAFTS", x.at(b, 0), 1 + 14 * odd);
            Check.due("PACE", x.at(b, 1), 1 + 8 * odd);
            Check.due("TIRED", x.at(b, 2), 0);
            Check.due("AT none", x.at(b, 3), -1);
        }
        Check.refused("a 7th BUILDER", x, -5, () -> x.builder(1, 1));
        Check.due("six BUILDERS", x.count(2), 6);
        Check.due("no BUILDER 6", x.at(6, 0), -1);
    }

    /** "TIRED 0 .. 99": 99 at most, whatever comes; 0 at least, by steps of 2. */
    private static void tired() {
        SunriseRoof x = new SunriseRoof();
        x.part(1, 0, 0, 0);
        x.builder(1, 1);
        Check.rule(x, "works 0;tires 20");
        x.send(0, 0);
        int[] up = {20, 40, 60, 80, 99, 99};
        for (int due : up) {
            x.tick();
            Check.due("TIRED by 20 more", x.at(0, 2), due);
        }
        x.rest(0);
        x.tick();
        Check.due("TIRED by 2 less", x.at(0, 2), 97);
        Check.rule(x, "works 0");
        x.send(0, 0);
        int[] slow = {98, 99, 99};
        for (int due : slow) {
            x.tick();
            Check.due("TIRED by 1 more", x.at(0, 2), due);
        }
        x.rest(0);
        for (int due = 97; due >= 1; due -= 2) {
            x.tick();
            Check.due("TIRED by 2 less", x.at(0, 2), due);
        }
        x.tick();
        Check.due("from 1 to 0", x.at(0, 2), 0);
        x.tick();
        Check.due("0 stays", x.at(0, 2), 0);
        x.send(0, 0);
        Check.orders(x, "tick times 2;rest 0");
        Check.due("TIRED 2", x.at(0, 2), 2);
        x.tick();
        Check.due("from 2 to 0", x.at(0, 2), 0);
    }

    /** "SIGHTS, 8 at most: behind k ticks 0 .. 99 of a night a PART stood (1) or not (0)" */
    private static void eightSights() {
        SunriseRoof x = new SunriseRoof();
        Check.due("no SIGHT at first", x.count(3), 0);
        Check.due("none to forget", x.forget(), 0);
        Check.refused("no PART at all", x, -2, () -> x.sight(0, 0, 0));
        x.part(9, 0, 0, 0);
        int[] notTick = {-1, 100, Integer.MIN_VALUE, Integer.MAX_VALUE};
        for (int k : notTick) {
            Check.refused("behind " + k, x, -1, () -> x.sight(k, 0, 0));
        }
        int[] notStood = {-1, 2, Integer.MIN_VALUE, Integer.MAX_VALUE};
        for (int s : notStood) {
            Check.refused("stood " + s, x, -1, () -> x.sight(0, 0, s));
        }
        for (int i = 1; i <= 8; i++) {
            int k = i % 2 == 0 ? 0 : 99;
            int number = i;
            Check.agreed("SIGHT " + i, x, number, () -> x.sight(k, 0, number == 5 ? 1 : 0));
            Check.due("SIGHTS", x.count(3), i);
        }
        Check.refused("a 9th SIGHT", x, -5, () -> x.sight(0, 0, 0));
        Check.due("all are gone", x.forget(), 8);
        Check.due("none is there", x.count(3), 0);
        Check.agreed("the first again", x, 1, () -> x.sight(0, 0, 0));
    }

    /** "TERMS: 0 HOUR 0 .. 999 (0 at first; ticks), 1 NIGHT 1 .. 99 (30; ticks), 2 RAIN 0 .. 10 (2), 3 MOOD 0 .. 9 (0)" */
    private static void terms() {
        SunriseRoof x = new SunriseRoof();
        int[] first = {0, 30, 2, 0};
        int[] least = {0, 1, 0, 0};
        int[] most = {999, 99, 10, 9};
        for (int w = 0; w < 4; w++) {
            int what = w;
            Check.due("at first TERM " + w, x.count(13 + w), first[w]);
            Check.refused("TERM " + w + " below its least", x, -1, () -> x.terms(what, least[what] - 1));
            Check.refused("TERM " + w + " above its most", x, -1, () -> x.terms(what, most[what] + 1));
            Check.refused("TERM " + w + " far below", x, -1, () -> x.terms(what, Integer.MIN_VALUE));
            Check.refused("TERM " + w + " far above", x, -1, () -> x.terms(what, Integer.MAX_VALUE));
            Check.agreed("TERM " + w + " at its most", x, first[w], () -> x.terms(what, most[what]));
            Check.agreed("TERM " + w + " at its least", x, most[w], () -> x.terms(what, least[what]));
            Check.agreed("TERM " + w + " as at first", x, least[w], () -> x.terms(what, first[what]));
        }
        int[] notWhat = {-1, 4, Integer.MIN_VALUE, Integer.MAX_VALUE};
        for (int w : notWhat) {
            Check.refused("no TERM " + w, x, -1, () -> x.terms(w, 1));
        }
    }

    /** "The first of these in that order": -1 ahead of -2, -3, -5; -2 ahead of -3, -5; -5 ahead of -6. */
    private static void firstOfTwo() {
        SunriseRoof x = new SunriseRoof();
        Check.fill(x, 10, 6);
        Check.refused("no room, WORK 0", x, -1, () -> x.part(0, 0, 0, 0));
        Check.refused("no room, WORK 100", x, -1, () -> x.part(100, 0, 0, 0));
        Check.refused("no room, NEEDS PART 10", x, -1, () -> x.part(1, 1024, 0, 0));
        Check.refused("no room, NEEDS -1", x, -1, () -> x.part(1, -1, 0, 0));
        Check.refused("no room, CRAFT 4", x, -1, () -> x.part(1, 0, 4, 0));
        Check.refused("no room, HEAVY 10", x, -1, () -> x.part(1, 0, 0, 10));
        Check.refused("no room, NEEDS all", x, -5, () -> x.part(1, 1023, 0, 0));
        Check.refused("no room, CRAFTS 0", x, -1, () -> x.builder(0, 1));
        Check.refused("no room, PACE 10", x, -1, () -> x.builder(1, 10));
        Check.refused("no room for a BUILDER", x, -5, () -> x.builder(15, 9));
        for (int i = 0; i < 8; i++) {
            x.sight(i, i, 0);
        }
        Check.refused("no room, no PART, k 100", x, -1, () -> x.sight(100, 10, 0));
        Check.refused("no room, no PART, stood 2", x, -1, () -> x.sight(0, 10, 2));
        Check.refused("no room, k -1", x, -1, () -> x.sight(-1, 0, 0));
        Check.refused("no room, no PART", x, -2, () -> x.sight(0, 10, 0));
        Check.refused("no room for a SIGHT", x, -5, () -> x.sight(0, 9, 0));
        Check.refused("no IMAGE, no such number", x, -1, () -> x.back(2));
        for (int i = 0; i < 6; i++) {
            Check.law(x, "bars");
        }
        x.force(0);
        Check.refused("no BUILDER, a PART from which all are BARRED", x, -2, () -> x.send(6, 0));
        Check.refused("no PART", x, -2, () -> x.send(0, 10));
        Check.refused("BARRED", x, -3, () -> x.send(0, 0));
        Check.refused("no room, an empty TAPE", x, -5, x::law);
        Check.feed(x, "works ]");
        Check.refused("no room, a TEXT that can't be", x, -5, x::law);
    }

    /** As firstOfTwo, where something stands. */
    private static void noSuchAheadOfStanding() {
        SunriseRoof x = new SunriseRoof();
        x.part(1, 0, 0, 0);
        x.part(1, 1, 0, 0);
        x.builder(1, 1);
        Check.refused("no BUILDER, a PART that is not READY", x, -2, () -> x.send(1, 1));
        Check.refused("a PART that is not READY", x, -3, () -> x.send(0, 1));
        Check.refused("no PART, a BUILDER AT none", x, -2, () -> x.send(0, 2));
        Check.refused("no BUILDER to rest", x, -2, () -> x.rest(1));
        Check.refused("a BUILDER AT none", x, -3, () -> x.rest(0));
        Check.refused("no PART to throw", x, -2, () -> x.throwDown(2));
        Check.refused("a PART that does not STAND", x, -3, () -> x.throwDown(1));
    }

    /** "An object is used for at most 512 calls": the last of them answers as the first. */
    private static void lastCall() {
        SunriseRoof x = new SunriseRoof();
        for (int call = 1; call <= 511; call++) {
            x.tick();
        }
        Check.due("the 512th call", x.count(13), 511);
    }

    public static void main(String[] args) {
        tenParts();
        numbersOfParts();
        needs();
        left();
        sixBuilders();
        tired();
        eightSights();
        terms();
        firstOfTwo();
        noSuchAheadOfStanding();
        lastCall();
        Check.finish("TermsOneTest");
    }
}
