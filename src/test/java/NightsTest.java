/** Promises 33, 34: nights by draws, what the last one left. */
public final class NightsTest {
    private static void wrong() {
        SunriseRoof x = new SunriseRoof();
        int[][] wrong = {{-1, 1}, {1000001, 1}, {0, 0}, {0, 21}, {Integer.MIN_VALUE, 1}, {0, Integer.MAX_VALUE}};
        for (int[] w : wrong) {
            Check.due("nights that can't be", x.nights(w[0], w[1]), -1);
            Check.due("status", x.status(), -1);
        }
        Check.due("nothing to build", x.nights(1000000, 20), 20);
        Check.due("status", x.status(), 0);
        Check.due("drawn", x.drawn(0, 0), -1);
    }

    private static void rain() {
        SunriseRoof x = new SunriseRoof();
        x.part(10, 0, 0, 0);
        x.part(5, 1, 0, 0);
        x.builder(1, 2);
        x.builder(2, 1);
        x.terms(1, 4);
        x.terms(2, 10);
        Check.due("it rains always", x.nights(5, 3), 0);
        Check.due("all is left", x.drawn(0, 0), 10);
        x.terms(2, 0);
        Check.due("it never rains", x.nights(5, 3), 0);
        Check.due("left of 0", x.drawn(0, 0), 2);
        Check.due("left of 1", x.drawn(1, 0), 5);
        Check.due("0 is tired", x.drawn(0, 1), 4);
        Check.due("1 is not", x.drawn(1, 1), 0);
        Check.due("it is on paper", x.of(0, 4) + x.count(13), 10);
        x.terms(1, 8);
        Check.due("in each all stood", x.nights(5, 20), 20);
        Check.due("nothing is left", x.drawn(1, 0), 0);
        x.terms(1, 10);
        x.nights(5, 1);
        Check.due("behind its end a night goes on: 8 ticks of work, 2 of rest", x.drawn(0, 1), 4);
    }

    private static void draws() {
        SunriseRoof x = new SunriseRoof();
        x.part(90, 0, 0, 0);
        x.builder(1, 1);
        x.builder(2, 1);
        x.terms(1, 3);
        x.terms(2, 5);
        // s from 11: 24478, 11498, 694603 ..: draws 8, 8, 3, then 6, 4, 4.
        x.nights(11, 1);
        Check.due("work in two of three", x.drawn(0, 0), 88);
        Check.due("tired in two", x.drawn(0, 1), 2);
        x.nights(11, 2);
        Check.due("the second goes on with s: work in one of three", x.drawn(0, 0), 89);
        Check.due("nights(11, 2) begins as now", x.drawn(0, 1), 1);
    }

    private static void rainOnTheTired() {
        SunriseRoof x = new SunriseRoof();
        x.part(90, 0, 0, 0);
        x.builder(1, 1);
        x.builder(2, 1);
        Check.rule(x, "works 1;tires 5");
        x.send(1, 0);
        x.tick();
        x.rest(1);
        x.force(-1);
        x.terms(1, 3);
        x.terms(2, 5);
        x.nights(11, 1);
        Check.due("1 rests in two of three", x.drawn(1, 1), 1);
        Check.due("hour goes on in rain", hourInRain(), 3);
        Check.due("hour goes on behind 999", hourBehindTheLast(), 97);
    }

    /** Works by the hour, so that what is left tells which hours were worked in. */
    private static int hourInRain() {
        SunriseRoof x = new SunriseRoof();
        x.part(90, 0, 0, 0);
        x.builder(1, 1);
        Check.rule(x, "works 1+hour");
        x.terms(1, 4);
        x.terms(2, 5);
        // Draws 8, 8, 3, 6: hours 0, 1, 3 are worked in: 1 and 2 and 4.
        x.nights(11, 1);
        return x.drawn(0, 0) - 80;
    }

    private static int hourBehindTheLast() {
        SunriseRoof x = new SunriseRoof();
        x.part(99, 0, 0, 0);
        x.builder(1, 1);
        Check.rule(x, "works 1 if hour>999;works 0 if hour<1000 and tired>0");
        x.terms(0, 998);
        x.terms(1, 4);
        x.terms(2, 0);
        // Hour 998: works 1, so that it is sent; 999: 0; 1000 and 1001: 1 each, but for what is asked first.
        x.nights(0, 1);
        return x.drawn(0, 0) + 1;
    }

    private static void kept() {
        SunriseRoof x = new SunriseRoof();
        x.part(9, 0, 0, 0);
        x.builder(1, 1);
        Check.due("ahead of any", x.drawn(0, 0), -1);
        Check.due("ahead of any", x.drawn(0, 1), -1);
        x.image(0);
        x.terms(2, 0);
        x.terms(1, 2);
        x.nights(1, 1);
        Check.due("left", x.drawn(0, 0), 7);
        x.nights(-1, 1);
        Check.due("a refused one leaves it", x.drawn(0, 0), 7);
        x.part(5, 0, 0, 0);
        Check.due("a part that came later", x.drawn(1, 0), -1);
        x.send(0, 0);
        x.tick();
        Check.due("it is as it was drawn", x.drawn(0, 0), 7);
        x.back(0);
        Check.due("images do not keep it", x.drawn(0, 0), 7);
        Check.due("drawn(0, 2)", x.drawn(0, 2), -1);
        Check.due("drawn(0, -1)", x.drawn(0, -1), -1);
        Check.due("drawn(-1, 0)", x.drawn(-1, 0), -1);
        Check.due("drawn(-1, 1)", x.drawn(-1, 1), -1);
        Check.due("drawn(1, 1)", x.drawn(1, 1), -1);
        x.send(0, 0);
        x.nights(1, 1);
        Check.due("by the plan, wherever they are", x.drawn(0, 0) + x.at(0, 3), 9 - nightsWork());
    }

    /** How much is done in 30 ticks of draws from 1 below RAIN 2, at pace 1 of 9. */
    private static int nightsWork() {
        long s = 1;
        int done = 0;
        for (int t = 0; t < 30; t++) {
            s = (s * 1103 + 12345) % 1000003;
            done += s % 10 < 2 ? 0 : 1;
        }
        return Math.min(9, done);
    }

    public static void main(String[] args) {
        wrong();
        rain();
        draws();
        rainOnTheTired();
        kept();
        Check.finish("NightsTest");
    }
}
