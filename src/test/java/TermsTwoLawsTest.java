/** Terms II, sentence by sentence, of LAWS: how many, which is in FORCE, what words tell, what HOLDS, the nearest of what can be. */
public final class TermsTwoLawsTest {
    /** "LAWS, 6 at most" */
    private static void sixLaws() {
        SunriseRoof x = new SunriseRoof();
        Check.fill(x, 1, 1);
        Check.due("no LAW at first", x.count(4), 0);
        Check.feed(x, "works");
        Check.refused("a TEXT that can't be", x, -6, x::law);
        for (int i = 0; i < 6; i++) {
            int law = i;
            Check.feed(x, "works " + i);
            Check.agreed("LAW " + i, x, law, x::law);
            Check.due("the TAPE is empty behind LAW " + i, x.count(6), 0);
            Check.due("LAWS", x.count(4), i + 1);
        }
        String[] seventh = {"works 6", "works", "", "   "};
        for (String text : seventh) {
            Check.feed(x, text);
            Check.refused("a 7th LAW '" + text + "'", x, -5, x::law);
            Check.due("the TAPE is empty then, too", x.count(6), 0);
            Check.due("it was not read", x.fault(), -1);
        }
        for (int i = 0; i < 6; i++) {
            x.force(i);
            Check.due("LAW " + i + " stays", x.asks(0, 0, 0), i);
        }
    }

    /** "one is in FORCE (NONE at first: no CLAUSE)" */
    private static void inForce() {
        SunriseRoof x = new SunriseRoof();
        x.part(9, 0, 2, 9);
        x.builder(4, 9);
        Check.due("NONE at first", x.count(12), -1);
        Check.refused("LAW 0, as there is none", x, -2, () -> x.force(0));
        Check.law(x, "works 1;tires 2;shows 3;bars");
        Check.due("a LAW is not in FORCE by being there", x.count(12), -1);
        int[] without = {9, 1, 1, 0};
        int[] with = {1, 2, 3, 1};
        for (int what = 0; what < 4; what++) {
            Check.due("without, asks " + what, x.asks(0, 0, what), without[what]);
        }
        int[] wrong = {1, -2, 6, Integer.MIN_VALUE, Integer.MAX_VALUE};
        for (int law : wrong) {
            Check.refused("LAW " + law, x, -2, () -> x.force(law));
        }
        Check.agreed("LAW 0", x, -1, () -> x.force(0));
        for (int what = 0; what < 4; what++) {
            Check.due("in FORCE, asks " + what, x.asks(0, 0, what), with[what]);
        }
        Check.agreed("LAW 0 again", x, 0, () -> x.force(0));
        Check.agreed("none", x, 0, () -> x.force(-1));
        Check.agreed("none again", x, -1, () -> x.force(-1));
        for (int what = 0; what < 4; what++) {
            Check.due("without again, asks " + what, x.asks(0, 0, what), without[what]);
        }
    }

    private static int asked(String text, int what) {
        SunriseRoof x = new SunriseRoof();
        x.part(99, 0, 0, 0);
        x.builder(1, 3);
        Check.rule(x, text);
        return x.asks(0, 0, what);
    }

    /** "WORKS by what the last "works" that HOLDS tells, 0 .. 20 (else the nearest) .. TIRES by 0 .. 20 .. SHOWS in 0 .. 10 of ten" */
    private static void nearest() {
        String[] heads = {"works ", "tires ", "shows "};
        int[] most = {20, 20, 10};
        for (int what = 0; what < 3; what++) {
            String head = heads[what];
            Check.due(head + "its most", asked(head + most[what], what), most[what]);
            Check.due(head + "one more", asked(head + (most[what] + 1), what), most[what]);
            Check.due(head + "one less", asked(head + (most[what] - 1), what), most[what] - 1);
            Check.due(head + "1000", asked(head + "1000", what), most[what]);
            Check.due(head + "the most a SUM can be", asked(head + "1000*1000*1000", what), most[what]);
            Check.due(head + "0", asked(head + "0", what), 0);
            Check.due(head + "1", asked(head + "1", what), 1);
            Check.due(head + "0-1", asked(head + "0-1", what), 0);
            Check.due(head + "the least a SUM can be", asked(head + "0-1000*1000*1000", what), 0);
        }
    }

    /** "PACE without, if it has the CRAFT, else 0; .. 1 without; .. 1 without": also with a LAW that has no such CLAUSE that HOLDS. */
    private static void without() {
        String[] laws = {"bars if 1=2", "works 5 if 1=2;tires 5 if 1=2;shows 5 if 1=2;bars if 1=2",
            "works 5 if 1/0=1;tires 5 if 1/0=1;shows 5 if 1/0=1;bars if 1/0=1", "works 1/0;tires 1/0;shows 1/0", "works 1/0 if 1=1;tires 1%0 if 1=1"};
        int[] due = {3, 1, 1, 0};
        for (String text : laws) {
            for (int what = 0; what < 4; what++) {
                Check.due("without '" + text + "', asks " + what, asked(text, what), due[what]);
            }
        }
        for (int crafts = 1; crafts <= 15; crafts++) {
            for (int craft = 0; craft < 4; craft++) {
                SunriseRoof x = new SunriseRoof();
                x.part(9, 0, craft, 0);
                x.builder(crafts, 9);
                int has = crafts >> craft & 1;
                Check.due("CRAFTS " + crafts + " at CRAFT " + craft, x.asks(0, 0, 0), 9 * has);
                Check.rule(x, "works 10+craft");
                Check.due("the word craft", x.asks(0, 0, 0), 10 + has);
            }
        }
    }

    /** "A CLAUSE HOLDS, if its "if" (if it has one) is so, and neither that nor its SUM is BROKEN." "the last .. that HOLDS" */
    private static void holds() {
        Check.due("the last", asked("works 4;works 5", 0), 5);
        Check.due("the last that is so", asked("works 4;works 5 if 1=2", 0), 4);
        Check.due("the last that is not BROKEN", asked("works 4;works 5 if 1/0=1", 0), 4);
        Check.due("the last whose SUM is not BROKEN", asked("works 4;works 1/0", 0), 4);
        Check.due("the first of twelve", asked("works 4;" + Check.times("works 9 if 1=2;", 10) + "works 9 if 1=2", 0), 4);
        Check.due("the twelfth of twelve", asked(Check.times("works 9;", 11) + "works 4", 0), 4);
        Check.due("one of another kind is none", asked("works 4;tires 9;shows 9;bars", 0), 4);
        Check.due("a bars that does not HOLD behind one that does", asked("bars;bars if 1=2", 3), 1);
        Check.due("a BROKEN one behind one that does", asked("bars;bars if 1/0=1", 3), 1);
        Check.due("a bars that HOLDS behind one that does not", asked("bars if 1=2;bars if 1=1", 3), 1);
        Check.due("none HOLDS", asked("bars if 1=2;bars if 2=1", 3), 0);
    }

    /** Each word at the least and the most that it can tell. */
    private static void words() {
        SunriseRoof x = new SunriseRoof();
        for (int p = 0; p < 10; p++) {
            x.part(p == 0 ? 1 : 99, 0, p == 0 ? 0 : 3, p);
        }
        for (int b = 0; b < 6; b++) {
            x.builder(b == 0 ? 1 : 8, b == 0 ? 1 : 9);
        }
        Check.rule(x, "works 0;tires 20");
        for (int b = 1; b < 6; b++) {
            x.send(b, 9);
        }
        Check.orders(x, "tick times 6");
        x.terms(0, 999);
        x.terms(3, 9);
        String[] words = {"builder", "pace", "tired", "part", "craft", "heavy", "left", "with", "hour", "mood"};
        int[] least = {0, 1, 0, 0, 1, 0, 1, 0, 999, 9};
        int[] most = {5, 9, 99, 9, 1, 9, 99, 4, 999, 9};
        int[] mixed = {0, 1, 0, 9, 0, 9, 99, 5, 999, 9};
        SunriseRoof kept = x;
        kept.image(0);
        for (int i = 0; i < words.length; i++) {
            kept.back(0);
            Check.rule(kept, "works 1 if " + words[i] + "=" + least[i] + ";tires 2 if " + words[i] + "=" + most[i] + ";shows 3 if " + words[i] + "=" + mixed[i]
                + ";works 0 if not " + words[i] + "=" + least[i] + ";tires 0 if not " + words[i] + "=" + most[i] + ";shows 0 if not " + words[i] + "=" + mixed[i]);
            Check.due(words[i] + " of 0 and 0", kept.asks(0, 0, 0), 1);
            Check.due(words[i] + " of 5 and 9", kept.asks(5, 9, 1), 2);
            Check.due(words[i] + " of 0 and 9", kept.asks(0, 9, 2), 3);
        }
        kept.back(0);
        kept.terms(0, 0);
        kept.terms(3, 0);
        Check.rule(kept, "works 7 if hour=0 and mood=0");
        Check.due("hour and mood 0", kept.asks(0, 0, 0), 7);
        Check.rule(kept, "works 7 if craft=0 and part=0");
        Check.due("craft of 5 and 0", kept.asks(5, 0, 0), 7);
    }

    /** In a tick: what the LAW tells at its most, at none, and of one that is BARRED where it is AT already. */
    private static void ticks() {
        SunriseRoof x = new SunriseRoof();
        x.part(99, 0, 0, 0);
        x.builder(1, 1);
        x.send(0, 0);
        Check.rule(x, "works 1000;tires 1000;bars");
        x.tick();
        Check.due("20 less is LEFT", x.of(0, 4), 79);
        Check.due("TIRED by 20", x.at(0, 2), 20);
        Check.refused("it may not be sent there", x, -3, () -> x.send(0, 0));
        Check.rule(x, "works 0-5;tires 0-5");
        x.tick();
        Check.due("none less is LEFT", x.of(0, 4), 79);
        Check.due("TIRED as it was", x.at(0, 2), 20);
        Check.due("AT it still", x.at(0, 3), 0);
    }

    public static void main(String[] args) {
        sixLaws();
        inForce();
        nearest();
        without();
        holds();
        words();
        ticks();
        Check.finish("TermsTwoLawsTest");
    }
}
