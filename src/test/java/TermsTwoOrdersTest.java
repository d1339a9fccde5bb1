/** Terms II, sentence by sentence, of ORDERS: TIMES, P and B, what words tell, what is run, what ends them. */
public final class TermsTwoOrdersTest {
    private static final boolean ORDERS = true;

    private static SunriseRoof site() {
        SunriseRoof x = new SunriseRoof();
        x.part(2, 0, 0, 0);
        x.part(3, 1, 0, 0);
        x.builder(1, 1);
        x.builder(1, 2);
        return x;
    }

    /** "TIMES: a NUMBER 1 .. 20." "each as often as TIMES tell (once without)" */
    private static void times() {
        Check.fault(ORDERS, "tick times 0", 11);
        Check.fault(ORDERS, "tick times 21", 11);
        Check.fault(ORDERS, "tick times 000", 11);
        Check.fault(ORDERS, "tick times 1000", 11);
        Check.fault(ORDERS, "tick times 1001", 11);
        Check.fault(ORDERS, "tick times", 10);
        Check.fault(ORDERS, "tick times [2]", 11);
        Check.fault(ORDERS, "tick times hour", 11);
        Check.fault(ORDERS, "tick times 2*2", 12);
        Check.fault(ORDERS, "tick times 2 2", 13);
        Check.fault(ORDERS, "tick times -1", 11);
        Check.due("once without", Check.orders(new SunriseRoof(), "tick"), 1);
        Check.due("once", Check.orders(new SunriseRoof(), "tick times 1"), 1);
        Check.due("20 times", Check.orders(new SunriseRoof(), "tick times 20"), 20);
        Check.due("020 times", Check.orders(new SunriseRoof(), "tick times 020"), 20);
        SunriseRoof x = new SunriseRoof();
        Check.due("the most that can be run", Check.orders(x, Check.times("tick times 20;", 11) + "tick times 20"), 240);
        Check.due("each was a tick", x.count(13), 240);
        Check.due("16 are kept", x.count(5), 16);
        Check.due("TIMES of one CLAUSE are not those of the next", Check.orders(x, "tick times 3;tick;tick times 2;tick"), 7);
    }

    /** "P: a NUMBER 0 .. 9, B: 0 .. 5" */
    private static void numbered() {
        for (int n = 0; n <= 11; n++) {
            String[] words = {"left ", "tired ", "at "};
            for (int w = 0; w < 3; w++) {
                String text = "tick if " + words[w] + n + "=0-1";
                if (n <= (w == 0 ? 9 : 5)) {
                    Check.due(text + ", as there is none", Check.orders(new SunriseRoof(), text), 1);
                } else {
                    Check.fault(ORDERS, text, 8 + words[w].length());
                }
            }
        }
        String[] wrong = {"pace", "[0]", "-1", "left", "1000", "1001", "4294967296"};
        for (String n : wrong) {
            Check.fault(ORDERS, "rest left " + n, 10);
            Check.fault(ORDERS, "rest tired " + n, 11);
            Check.fault(ORDERS, "rest at " + n, 8);
        }
        Check.due("left 09 is left 9", Check.orders(new SunriseRoof(), "tick if left 09=0-1 and at 05=0-1 and tired 00=0-1"), 1);
    }

    private static void told(SunriseRoof x, String word, String sum) {
        x.image(1);
        Check.due(word + "=" + sum, Check.orders(x, "tick if " + word + "=" + sum), 1);
        x.back(1);
        Check.due("not " + word + "=" + sum, Check.orders(x, "tick if not " + word + "=" + sum), 0);
    }

    /** "standing: how many PARTS STAND, left, tired: -1 without such a PART, BUILDER, at: the PART (-1: none)" */
    private static void words() {
        SunriseRoof x = new SunriseRoof();
        told(x, "hour", "0");
        told(x, "done", "0");
        told(x, "stood", "0-1");
        told(x, "standing", "0");
        told(x, "left 0", "0-1");
        told(x, "tired 0", "0-1");
        told(x, "at 0", "0-1");
        for (int p = 0; p < 9; p++) {
            x.part(1, 0, 0, 0);
        }
        x.part(99, 0, 0, 0);
        for (int b = 0; b < 5; b++) {
            x.builder(1, 1);
        }
        told(x, "tired 5", "0-1");
        x.builder(1, 1);
        told(x, "left 9", "99");
        told(x, "left 0", "1");
        told(x, "tired 5", "0");
        told(x, "at 5", "0-1");
        x.send(0, 0);
        x.send(5, 9);
        told(x, "at 0", "0");
        told(x, "at 5", "9");
        x.tick();
        told(x, "left 0", "0");
        told(x, "at 0", "0-1");
        told(x, "tired 5", "1");
        told(x, "standing", "1");
        told(x, "stood", "0-1");
        x.terms(0, 998);
        told(x, "hour", "998");
        for (int p = 1; p < 9; p++) {
            x.terms(0, 0);
            x.send(p % 6, p);
            x.tick();
        }
        told(x, "standing", "9");
        Check.rule(x, "works 20");
        x.send(0, 9);
        Check.due("the tenth", Check.orders(x, "tick times 20 if standing<10;tick if standing=10"), 6);
    }

    /** "done: how many were run in this TEXT, stood: what the latest tick in it told (-1: none)" */
    private static void doneAndStood() {
        SunriseRoof x = new SunriseRoof();
        Check.fill(x, 6, 6);
        Check.due("done goes up by each that was run", Check.orders(x, "tick if done=0;tick if done=1;tick times 3 if done=2;tick if done=3;tick if done=9"), 4);
        Check.due("done is none again", Check.orders(x, "tick if done=4;tick if done=0"), 1);
        Check.due("up to 239", Check.orders(x, Check.times("tick times 20 if done<239;", 11) + "tick times 20 if done<239"), 239);
        x.terms(0, 0);
        for (int p = 0; p < 6; p++) {
            x.send(p, p);
        }
        Check.due("stood: none, 6, then 0", Check.orders(x, "tick if stood=0-1;rest 0 if stood=0;tick if stood=6;tick if stood=0;tick if stood=0-1"), 3);
        Check.due("stood is none again", Check.orders(x, "tick if stood=0;tick if stood=0-1"), 1);
        Check.due("what is no tick leaves it", Check.orders(x, "throw 0;tick;throw 1;send 0 to 0;tick if stood=0;throw 2 if stood=1;rest 0 if stood=0-1"), 6);
    }

    /** "each time its "if" is asked (not run, if it is not so or BROKEN), then its SUMS from the left" */
    private static void asked() {
        SunriseRoof x = site();
        Check.due("none is run", Check.orders(x, "tick if 1=2"), 0);
        Check.due("none is BROKEN into being", Check.orders(x, "tick times 20 if 1/0=0"), 0);
        Check.due("no CLAUSE stopped", x.stopped(), -1);
        Check.due("a SUM is not asked, if its CLAUSE is not run", Check.orders(x, "rest 1/0 if 1=2;send 9 to 9 if 1/0=1"), 0);
        Check.due("it is asked each time", Check.orders(x, "send 0 to 0 times 20 if at 0=0-1"), 1);
        Check.due("SUMS are asked each time", Check.orders(x, "send done to 0 times 2;tick"), 3);
        Check.due("both worked", x.of(0, 4), 0);
    }

    /** "One that can't be (a BROKEN SUM, as send(), rest(), throw(), tick() are REFUSED) ends it: all is as it was ahead of it." */
    private static void ends() {
        String[] wrong = {"tick;send 2 to 0", "tick;send 0-1 to 0", "tick;send 0 to 2", "tick;send 0 to 0-1", "send 0 to 0;send 0 to 1", "tick;send 0 to 0",
            "tick;rest 0", "tick;rest 1", "tick;rest 2", "tick;rest 0-1", "send 0 to 0;throw 0", "tick;throw 1", "tick;throw 2", "tick;throw 0-1",
            "tick;rest 1/0", "tick;throw 0*[1%0]", "send 0 to 0;send 0*[1/0] to 0", "send 0 to 0;send 0 to 0*[1/0]", "tick;rest 1000*1000*1000",
            "tick;rest 1000*1000*1000+1", "tick;throw 0-1000*1000*1000", "tick;tick", "tick times 2", "tick;send 0 to 1;throw 0"};
        for (String text : wrong) {
            SunriseRoof x = site();
            x.terms(0, 998);
            Check.law(x, "works 1");
            x.sight(1, 1, 1);
            x.send(1, 0);
            for (int i = 0; i < 17; i++) {
                x.send(0, 0);
                x.rest(0);
            }
            Check.feed(x, text);
            Check.refused("'" + text + "'", x, -3, x::orders);
            Check.due("its CLAUSE", x.stopped(), text.chars().filter(c -> c == ';').count());
            Check.due("no FAULT", x.fault(), -1);
            Check.due("the TAPE is empty", x.count(6), 0);
            Check.due("what can be undone", x.count(5), 16);
            Check.due("the latest is a rest()", x.undo(), 1);
            Check.due("ahead of it a send()", x.undo(), 0);
            for (int i = 0; i < 7; i++) {
                Check.due("and so on", x.undo() * 10 + x.undo(), 10);
            }
            Check.due("16 and no more", x.undo(), -3);
        }
    }

    /** The first CLAUSE and the last of twelve, the first time and the 20th. */
    private static void whichClause() {
        SunriseRoof x = site();
        Check.due("the first", Check.orders(x, "rest 0;tick"), -3);
        Check.due("0", x.stopped(), 0);
        Check.due("the 12th", Check.orders(x, Check.times("tick;", 11) + "rest 0"), -3);
        Check.due("11", x.stopped(), 11);
        Check.due("the last time", Check.orders(x, "rest 0 times 20 if done=19;tick times 19;rest 0 if done=19"), -3);
        Check.due("2", x.stopped(), 2);
        x.terms(0, 979);
        Check.due("20 till the last HOUR", Check.orders(x, "tick times 20"), 20);
        Check.due("999", x.count(13), 999);
        x.terms(0, 980);
        Check.due("the 20th can't be", Check.orders(x, "tick times 20"), -3);
        Check.due("0", x.stopped(), 0);
        Check.due("none was", x.count(13), 980);
        Check.due("those that can be", Check.orders(x, "tick times 20 if hour<999"), 19);
        Check.due("none stopped", x.stopped(), -1);
        Check.due("a TEXT that can't be", Check.orders(x, "rest 0;"), -6);
        Check.due("none stopped", x.stopped(), -1);
    }

    public static void main(String[] args) {
        times();
        numbered();
        words();
        doneAndStood();
        asked();
        ends();
        whichClause();
        Check.finish("TermsTwoOrdersTest");
    }
}
