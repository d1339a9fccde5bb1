/** Promises 6, 12, 14, 16 and the law's language. */
public final class LawTest {
    private static SunriseRoof site() {
        SunriseRoof x = new SunriseRoof();
        x.part(40, 0, 2, 7);
        x.part(30, 0, 0, 5);
        x.builder(4, 3);
        x.builder(1, 2);
        x.builder(15, 9);
        return x;
    }

    /** What a SUM is, told by "works" for builder 0 and part 0. */
    private static void worth(String sum, int value) {
        SunriseRoof x = site();
        Check.rule(x, "works " + sum);
        Check.due("works " + sum, x.asks(0, 0, 0), value);
    }

    /** Whether a TEST is so, not so or broken, told by "bars if". */
    private static void so(String test, int value) {
        SunriseRoof x = site();
        Check.rule(x, "bars if " + test);
        Check.due("bars if " + test, x.asks(0, 0, 3), value);
    }

    private static SunriseRoof busySite() {
        SunriseRoof x = site();
        x.terms(0, 12);
        x.terms(3, 8);
        x.send(1, 1);
        x.send(2, 1);
        x.tick();
        return x;
    }

    private static void words() {
        String[] words = {"builder", "pace", "tired", "part", "craft", "heavy", "left-17", "with", "hour", "mood"};
        int[] dueOf0 = {0, 3, 0, 1, 0, 5, 2, 2, 13, 8};
        int[] dueOf1 = {1, 2, 1, 1, 1, 5, 2, 1, 13, 8};
        for (int i = 0; i < words.length; i++) {
            SunriseRoof x = busySite();
            Check.rule(x, "works " + words[i]);
            Check.due(words[i] + " of 0, which is elsewhere", x.asks(0, 1, 0), dueOf0[i]);
            Check.due(words[i] + " of 1, which is at it", x.asks(1, 1, 0), dueOf1[i]);
        }
    }

    private static void sums() {
        worth("7", 7);
        worth("1+2*3", 7);
        worth("[1+2]*3", 9);
        worth("10-3-2", 5);
        worth("100/7/2", 7);
        worth("17%7*2", 6);
        worth("9-7/2", 6);
        worth("[0-7]/2+20", 17);
        worth("[0-7]%4+20", 17);
        worth("7/[0-2]+20", 17);
        worth("7%[0-4]+2", 5);
        worth("25", 20);
        worth("0-25", 0);
        worth("0010", 10);
        worth("1000-990", 10);
        worth("heavy+pace", 10);
        worth("left-30", 10);
        worth("1000*1000*1000/1000/1000/100", 10);
        worth("[0-1000]*1000*1000/1000/1000/100+20", 10);
        // Broken: without a law that holds it works its pace.
        worth("1000*1000*1000+1", 3);
        worth("1000*1000*1000+1-1", 3);
        worth("0-1000*1000*1000-1", 3);
        worth("1000*1000*1000*1000/1000", 3);
        worth("5/0", 3);
        worth("5%0", 3);
        worth("0/[pace-3]", 3);
        worth("[[[[[[[[5]]]]]]]]", 5);
    }

    private static void tests() {
        so("1=1", 1);
        so("1=2", 0);
        so("1<2", 1);
        so("2<2", 0);
        so("3>2", 1);
        so("2>2", 0);
        so("not 1=2", 1);
        so("not not 1=2", 0);
        so("1=2 or 1=1", 1);
        so("1=1 and 1=2", 0);
        so("1=1 or 1=1 and 1=2", 1);
        so("(1=1 or 1=1) and 1=2", 0);
        so("not 1=2 and 1=2", 0);
        so("not (1=2 and 1=2)", 1);
        so("not (not 1=1)", 1);
        so("not 1=1 and 1=1", 0);
        so("not 1=1 or 1=2", 0);
        so("1=1 or 1/0=1", 1);
        so("1/0=1 or 1=1", 0);
        so("not 1/0=1", 0);
        so("1=2 and 1/0=1 or 1=1", 1);
        so("1=1 and 1/0=1 or 1=1", 0);
        so("1=2 or 1/0=1 or 1=1", 0);
        so("1=2 or 1=1 or 1/0=1", 1);
        so("1=1 and 1=1 and 1/0=1", 0);
        so("1=1 and 1=2 and 1/0=1", 0);
        so("not (1=2 and 1/0=1)", 1);
        so("1=1/0", 0);
        so("((((((((1=1))))))))", 1);
        so("([[[[[[[1]]]]]]]=1)", 1);
        so(Check.times("not ", 96) + "1=1", 1);
        so(Check.times("not ", 95) + "1=1", 0);
    }

    private static void clauses() {
        SunriseRoof x = site();
        Check.rule(x, "works 4; works 5 if pace=3; works 6 if pace=2; works 1/0 ; tires 30; tires 0-1 if part=1; shows 99; bars if builder=1; bars if 1=2");
        Check.due("the last that holds", x.asks(0, 0, 0), 5);
        Check.due("the last that holds", x.asks(1, 0, 0), 6);
        Check.due("the last that holds, without the craft", x.asks(2, 0, 0), 4);
        Check.due("tires 20 at most", x.asks(0, 0, 1), 20);
        Check.due("tires 0 at least", x.asks(0, 1, 1), 0);
        Check.due("shows 10 at most", x.asks(0, 0, 2), 10);
        Check.due("any bars that holds", x.asks(1, 0, 3), 1);
        Check.due("none that holds", x.asks(2, 0, 3), 0);
        Check.rule(x, "bars");
        Check.due("bars without if", x.asks(2, 0, 3), 1);
        Check.rule(x, "tires 1/0;shows 1/0;works 2 if 1/0=1");
        Check.due("a broken SUM", x.asks(0, 0, 1), 1);
        Check.due("a broken SUM", x.asks(0, 0, 2), 1);
        Check.due("a broken TEST", x.asks(0, 0, 0), 3);
        Check.due("no force", x.force(-1), 2);
        Check.due("none goes without", x.asks(1, 0, 3), 0);
    }

    private static void force() {
        SunriseRoof x = site();
        Check.due("no law 0", x.force(0), -2);
        Check.due("status", x.status(), -2);
        Check.due("none was", x.force(-1), -1);
        Check.due("which is not REFUSED", x.status(), 0);
        for (int i = 0; i < 6; i++) {
            Check.due("law " + i, Check.law(x, "works " + i), i);
        }
        Check.due("laws", x.count(4), 6);
        Check.fault(false, "work", 0);
        Check.due("a faulty one", Check.law(x, "bars 3"), -5);
        Check.due("its tape is empty", x.count(6), 0);
        Check.due("it was not read", x.fault(), -1);
        Check.due("refused by -5", x.count(10), 1);
        Check.due("force 5", x.force(5), -1);
        Check.due("in force", x.count(12), 5);
        Check.due("works 5", x.asks(1, 0, 0), 5);
        Check.due("force 3", x.force(3), 5);
        Check.due("works 3", x.asks(1, 0, 0), 3);
        Check.due("force 6", x.force(6), -2);
        Check.due("force -2", x.force(-2), -2);
        Check.due("it stays", x.count(12), 3);
    }

    private static void faults() {
        Check.fault(false, "", 0);
        Check.fault(false, "   ", 3);
        Check.fault(false, "works", 5);
        Check.fault(false, "works  ", 7);
        Check.fault(false, " works;", 6);
        Check.fault(false, "works 1;", 8);
        Check.fault(false, "works 1; ", 9);
        Check.fault(false, ";works 1", 0);
        Check.fault(false, "works 1 2", 8);
        Check.fault(false, "works 1001", 6);
        Check.fault(false, "works 99999999999999999999", 6);
        Check.fault(false, "works 10000", 6);
        Check.fault(false, "works 1000000", 6);
        Check.fault(false, "works send", 6);
        Check.fault(false, "builder 1", 0);
        Check.fault(false, "barsz", 0);
        Check.fault(false, "bars z", 5);
        Check.fault(false, "barsa", 0);
        Check.fault(false, "works 1+", 8);
        Check.fault(false, "works +1", 6);
        Check.fault(false, "works (1)", 6);
        Check.fault(false, "works [1", 8);
        Check.fault(false, "works [1)", 8);
        Check.fault(false, "works done", 6);
        Check.fault(false, "works stood", 6);
        Check.fault(false, "works left 1", 11);
        Check.fault(false, "worksif", 0);
        Check.fault(false, "Works 1", 0);
        Check.fault(false, "works 1 times 2", 8);
        Check.fault(false, "bars if", 7);
        Check.fault(false, "bars if 1", 9);
        Check.fault(false, "bars if 1=1=1", 11);
        Check.fault(false, "bars if (1)=1", 10);
        Check.fault(false, "bars if (1=1)=1", 13);
        Check.fault(false, "bars if [1=1]", 10);
        Check.fault(false, "bars if 1=1 and", 15);
        Check.fault(false, "bars if 1=1 or or", 15);
        Check.fault(false, "bars if not", 11);
        Check.fault(false, "bars if 1=1 not 1=1", 12);
        Check.fault(false, "bars if 1=1 if 1=1", 12);
        Check.fault(false, "bars if 1<=1", 10);
        Check.fault(false, "tick", 0);
        Check.fault(false, "bars\t", 4);
        Check.fault(false, "bars" + (char) 228, 4);
        Check.fault(false, "bars" + (char) 0, 4);
        Check.fault(false, "works [[[[[[[[[5]]]]]]]]]", 14);
        Check.fault(false, "bars if (((((((([1]=1))))))))", 16);
        Check.fault(false, "bars if (((((((((1=1)))))))))", 16);
        String twelve = Check.times("bars;", 11) + "bars";
        Check.fault(false, twelve + ";bars", 60);
        Check.fault(false, twelve + "; bars", 61);
        Check.fault(false, twelve + ";", 60);
        Check.due("twelve clauses", Check.law(new SunriseRoof(), twelve), 0);
        String fifty = "works " + Check.times("1+", 49) + "1";
        Check.due("fifty parts", Check.law(new SunriseRoof(), fifty), 0);
        Check.fault(false, fifty + "+1", 106);
        Check.fault(false, fifty + "+[pace]", 107);
        Check.fault(false, fifty + ";works 1", 112);
        Check.due("brackets side by side", Check.law(new SunriseRoof(), "works " + Check.times("[1]+", 20) + "1"), 0);
    }

    private static void faultStays() {
        SunriseRoof x = site();
        Check.due("a fault", Check.law(x, "works 1 ]"), -6);
        Check.due("status", x.status(), -6);
        Check.due("its place", x.fault(), 8);
        Check.due("no law came", x.count(4), 0);
        Check.due("the tape is empty", x.count(6), 0);
        x.tick();
        Check.due("still", x.fault(), 8);
        Check.due("a law", Check.law(x, "works 1"), 0);
        Check.due("no fault", x.fault(), -1);
        Check.due("the tape is empty", x.count(6), 0);
    }

    public static void main(String[] args) {
        words();
        sums();
        tests();
        clauses();
        force();
        faults();
        faultStays();
        Check.finish("LawTest");
    }
}
