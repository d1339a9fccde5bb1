/** Promises 4, 5, 6, 7: builders, what they are asked without a law, terms. */
public final class BuildersTest {
    private static void builders() {
        SunriseRoof x = new SunriseRoof();
        int[][] wrong = {{0, 1}, {16, 1}, {-1, 1}, {1, 0}, {1, 10}, {1, -1}, {Integer.MIN_VALUE, Integer.MAX_VALUE}};
        for (int[] w : wrong) {
            Check.due("builder that can't be", x.builder(w[0], w[1]), -1);
            Check.due("status", x.status(), -1);
        }
        for (int b = 0; b < 6; b++) {
            Check.due("builder " + b, x.builder(15 - b, 9 - b), b);
        }
        Check.due("a seventh", x.builder(1, 1), -5);
        Check.due("a seventh that can't be", x.builder(16, 1), -1);
        Check.due("count", x.count(2), 6);
        Check.due("crafts", x.at(5, 0), 10);
        Check.due("pace", x.at(5, 1), 4);
        Check.due("tired", x.at(5, 2), 0);
        Check.due("at none", x.at(5, 3), -1);
        Check.due("at(5, 4)", x.at(5, 4), -1);
        Check.due("at(5, -1)", x.at(5, -1), -1);
        Check.due("at(6, 0)", x.at(6, 0), -1);
        Check.due("at(-1, 0)", x.at(-1, 0), -1);
    }

    private static void asksWithoutLaw() {
        SunriseRoof x = new SunriseRoof();
        x.part(9, 0, 2, 0);
        x.builder(4, 7);
        x.builder(11, 7);
        Check.due("works its pace", x.asks(0, 0, 0), 7);
        Check.due("works 0 without the craft", x.asks(1, 0, 0), 0);
        for (int b = 0; b < 2; b++) {
            Check.due("tires", x.asks(b, 0, 1), 1);
            Check.due("shows", x.asks(b, 0, 2), 1);
            Check.due("barred", x.asks(b, 0, 3), 0);
        }
        Check.due("what 4", x.asks(0, 0, 4), -1);
        Check.due("what -1", x.asks(0, 0, -1), -1);
        Check.due("no builder", x.asks(2, 0, 0), -1);
        Check.due("no part", x.asks(0, 1, 0), -1);
        Check.due("builder -1", x.asks(-1, 0, 0), -1);
        Check.due("part -1", x.asks(0, -1, 0), -1);
    }

    private static void terms() {
        SunriseRoof x = new SunriseRoof();
        int[] first = {0, 30, 2, 0};
        int[] least = {0, 1, 0, 0};
        int[] most = {999, 99, 10, 9};
        for (int w = 0; w < 4; w++) {
            Check.due("below the least", x.terms(w, least[w] - 1), -1);
            Check.due("above the most", x.terms(w, most[w] + 1), -1);
            Check.due("status", x.status(), -1);
            Check.due("to the most", x.terms(w, most[w]), first[w]);
            Check.due("status", x.status(), 0);
            Check.due("count", x.count(13 + w), most[w]);
            Check.due("to the least", x.terms(w, least[w]), most[w]);
            Check.due("count", x.count(13 + w), least[w]);
        }
        Check.due("terms(4, 1)", x.terms(4, 1), -1);
        Check.due("terms(-1, 1)", x.terms(-1, 1), -1);
        Check.due("refused", x.count(7), 10);
    }

    public static void main(String[] args) {
        builders();
        asksWithoutLaw();
        terms();
        Check.finish("BuildersTest");
    }
}
