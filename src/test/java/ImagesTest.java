/** Promises 35, 36, 37, 38: images, back, count, status. */
public final class ImagesTest {
    private static void images() {
        SunriseRoof x = new SunriseRoof();
        Check.due("image(2)", x.image(2), -1);
        Check.due("image(-1)", x.image(-1), -1);
        Check.due("back(2)", x.back(2), -1);
        Check.due("back(-1)", x.back(-1), -1);
        Check.due("not kept", x.back(0), -2);
        Check.due("status", x.status(), -2);
        Check.due("image 1", x.image(1), 0);
        Check.due("still not kept", x.back(0), -2);
        x.part(9, 0, 0, 0);
        x.builder(1, 2);
        Check.law(x, "works 4");
        x.force(0);
        x.sight(3, 0, 1);
        x.terms(1, 50);
        x.send(0, 0);
        x.tick();
        Check.due("image 0", x.image(0), 0);
        x.tick();
        x.part(3, 1, 0, 0);
        x.builder(2, 3);
        Check.law(x, "works 7");
        x.force(1);
        x.forget();
        x.sight(88, 1, 0);
        x.sight(88, 1, 0);
        x.terms(0, 77);
        x.terms(3, 5);
        Check.due("back", x.back(0), 0);
        Check.due("status", x.status(), 0);
        int[] due = {1, 0, 1, 1, 1, 0, 0, 4, 2, 0, 0, 0, 0, 1, 50, 2, 0};
        for (int w = 0; w < due.length; w++) {
            Check.due("behind back: count(" + w + ")", x.count(w), due[w]);
        }
        Check.due("left", x.of(0, 4), 5);
        Check.due("at", x.at(0, 3), 0);
        Check.due("tired", x.at(0, 2), 1);
        Check.due("works by the law", x.asks(0, 0, 0), 4);
        Check.due("the sight", x.whose(-1) * 10 + x.whose(0), 11);
        x.sight(2, 0, 1);
        Check.due("2 ticks are enough of what is left", x.whose(-1), 1);
        x.sight(1, 0, 0);
        Check.due("1 is not", x.whose(-1), 1);
        Check.due("nothing can be undone", x.undo(), -3);
        Check.due("back to the empty one", x.back(1), 0);
        Check.due("no parts", x.count(0), 0);
        Check.due("no force", x.count(12), -1);
        Check.due("images stay", x.back(0), 0);
        Check.due("parts", x.count(0), 1);
        Check.due("back is not counted among what it keeps", x.count(9), 1);
    }

    private static void whatTheyDoNotKeep() {
        SunriseRoof x = new SunriseRoof();
        x.image(0);
        Check.law(x, "works ]");
        Check.feed(x, new byte[] {0, 0, 0, 0, 1});
        x.row();
        Check.orders(x, "tick;rest 0");
        Check.law(x, "works ]");
        x.feed(1, 2, 3, 4, 5);
        x.back(0);
        Check.due("the tape", x.count(6), 20);
        Check.due("fault", x.fault(), 6);
        Check.due("chaff", x.chaff(), 2);
        Check.due("where orders stopped", x.stopped(), 1);
        Check.due("refused by -6", x.count(11), 2);
    }

    private static void lawsOfImages() {
        SunriseRoof x = new SunriseRoof();
        x.part(9, 0, 0, 0);
        x.builder(1, 1);
        x.image(1);
        Check.rule(x, "works 3");
        x.image(0);
        x.back(1);
        Check.rule(x, "works 8");
        Check.due("another law 0", x.asks(0, 0, 0), 8);
        x.back(0);
        Check.due("the law as it was then", x.asks(0, 0, 0), 3);
        Check.due("and so the plan", x.plan(-1), 3);
        x.image(1);
        x.tick();
        x.back(1);
        Check.due("an image kept anew", x.asks(0, 0, 0), 3);
    }

    private static void counts() {
        SunriseRoof x = new SunriseRoof();
        x.part(0, 0, 0, 0);
        x.send(0, 0);
        x.send(0, 0);
        x.undo();
        x.undo();
        x.undo();
        for (int b = 0; b < 10; b++) {
            x.builder(1, 1);
        }
        for (int i = 0; i < 5; i++) {
            x.law();
        }
        int[] due = {1, 2, 3, 4, 5};
        for (int w = 0; w < 5; w++) {
            Check.due("count(" + (7 + w) + ")", x.count(7 + w), due[w]);
        }
        Check.due("count(17)", x.count(17), -1);
        Check.due("count(-1)", x.count(-1), -1);
        x.back(0);
        Check.due("status", x.status(), -2);
        x.feed(1, 1, 1, 1, 1);
        x.end(-4);
        x.of(9, 9);
        x.whose(7);
        x.forget();
        x.drawn(3, 3);
        Check.due("others leave the status", x.status(), -2);
        Check.due("and are not counted", x.count(7) + x.count(8), 4);
        x.image(0);
        Check.due("image sets it", x.status(), 0);
    }

    private static void everyStatus() {
        SunriseRoof x = new SunriseRoof();
        x.part(3, 0, 0, 0);
        x.builder(1, 1);
        x.image(0);
        for (int i = 0; i < 15; i++) {
            x.nights(-1, 0);
            Check.due("status ahead", x.status(), -1);
            switch (i) {
                case 0: x.part(1, 0, 0, 0); break;
                case 1: x.builder(1, 1); break;
                case 2: x.terms(0, 0); break;
                case 3: x.feed(0, 0, 0, 0, 0); x.row(); break;
                case 4: Check.law(x, "bars if 1=2"); break;
                case 5: Check.orders(x, "tick"); break;
                case 6: x.force(0); break;
                case 7: x.send(0, 0); break;
                case 8: x.rest(0); break;
                case 9: x.undo(); break;
                case 10: x.tick(); break;
                case 11: x.sight(0, 0, 0); break;
                case 12: x.nights(0, 1); break;
                case 13: x.back(0); break;
                default: x.send(0, 0); x.tick(); x.tick(); x.tick(); x.nights(-1, 0); x.throwDown(0);
            }
            Check.due("status behind " + i, x.status(), 0);
        }
    }

    public static void main(String[] args) {
        images();
        whatTheyDoNotKeep();
        lawsOfImages();
        counts();
        everyStatus();
        Check.finish("ImagesTest");
    }
}
