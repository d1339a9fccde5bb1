/** Terms II, sentence by sentence: what SUMS and TESTS are worth, what is BROKEN and when it is not asked. */
public final class TermsTwoSumsTest {
    private static SunriseRoof site(String text) {
        SunriseRoof x = new SunriseRoof();
        x.part(40, 0, 0, 0);
        x.builder(1, 1);
        Check.rule(x, text);
        return x;
    }

    /** A SUM of 0 .. 20 that is not BROKEN. */
    private static void worth(String sum, int value) {
        Check.due("'" + sum + "'", site("works 19;works " + sum).asks(0, 0, 0), value);
        Check.due("'" + sum + "' that is compared", site("works 19;works 4 if " + sum + "=" + value).asks(0, 0, 0), 4);
    }

    private static void broken(String sum) {
        Check.due("'" + sum + "' is BROKEN", site("works 19;works " + sum).asks(0, 0, 0), 19);
        is(sum + "=0", "BROKEN");
        is("0<" + sum, "BROKEN");
        SunriseRoof x = new SunriseRoof();
        Check.fill(x, 1, 1);
        Check.due("a BUILDER by '" + sum + "'", Check.orders(x, "tick;send 0*[" + sum + "] to 0"), -3);
        Check.due("its CLAUSE", x.stopped(), 1);
        Check.due("a PART by '" + sum + "'", Check.orders(x, "send 0 to 0*[" + sum + "]"), -3);
        Check.due("its CLAUSE", x.stopped(), 0);
        Check.due("an order that is not run if '" + sum + "' is so", Check.orders(x, "tick if " + sum + "=0;tick if not " + sum + "=0"), 0);
    }

    private static void is(String test, String due) {
        int told = site("works 1;works 2 if " + test + ";works 3 if not (" + test + ")").asks(0, 0, 0);
        Check.due("'" + test + "' (1 is BROKEN, 2 so, 3 not so)", told, due.equals("so") ? 2 : due.equals("not so") ? 3 : 1);
    }

    /** "Beyond 1,000,000,000 either way ... a SUM, a TEST is BROKEN" */
    private static void beyond() {
        String most = "1000*1000*1000";
        worth(most + "/1000/1000/100", 10);
        worth("[0-1000]*1000*1000/1000/1000/100+20", 10);
        worth("[0-1000]*1000*[0-1000]/1000/1000/100", 10);
        is(most + "=" + most, "so");
        is(most + ">" + most + "-1", "so");
        is("0-" + most + "<1-" + most, "so");
        is("0-" + most + "=[0-1000]*1000*1000", "so");
        broken("[" + most + "+1]/1000/1000/100");
        broken("[1+" + most + "]/1000/1000/100");
        broken("[0-" + most + "-1]/1000/1000/100");
        broken("[0-1-" + most + "]");
        broken("1000*1000*[1000+1]");
        broken("[0-1000]*1000*[1000+1]");
        broken("1000*[0-1000]*[1000+1]");
        broken(most + "+1-1");
        broken("0-" + most + "-1+1");
        broken(most + "*1000/1000");
        broken("0*[" + most + "*2]");
        worth("0*" + most, 0);
        worth(most + "-" + most, 0);
        // What would be small again in 32 or 64 bits.
        broken("[65*1000+536]*[65*1000+536]");
        broken("[" + most + "]*[" + most + "]*[" + most + "]*[" + most + "]");
        broken("[" + most + "]*4+[294*1000+967]*1000+296");
    }

    /** "divided by 0 (/ cut towards 0, % what is left then)" */
    private static void divided() {
        broken("5/0");
        broken("5%0");
        broken("0/0");
        broken("0%0");
        broken("5/[3-3]");
        broken("5%[3-3]");
        broken("[0-5]/0");
        broken("5/0*0");
        broken("0*[5/0]");
        worth("0/5", 0);
        worth("0%5", 0);
        worth("5/1", 5);
        worth("5%1", 0);
        worth("4/5", 0);
        worth("4%5", 4);
        worth("5/5", 1);
        worth("5%5", 0);
        worth("7/2", 3);
        worth("7%2", 1);
        worth("[0-7]/2+10", 7);
        worth("[0-7]%2+10", 9);
        worth("7/[0-2]+10", 7);
        worth("7%[0-2]+10", 11);
        worth("[0-7]/[0-2]", 3);
        worth("[0-7]%[0-2]+10", 9);
        worth("[0-1]/2+10", 10);
        worth("[0-1]%2+10", 9);
        worth("[0-6]/3+10", 8);
        worth("[0-6]%3+10", 10);
    }

    /** "SUM: TERM {("+" | "-") TERM}. TERM: PART {("*" | "/" | "%") PART}": from the left, TERMS ahead of SUMS. */
    private static void order() {
        worth("20-5-5", 10);
        worth("20-5+5", 20);
        worth("20-[5+5]", 10);
        worth("20/3*3", 18);
        worth("20*3/4", 15);
        worth("2*7%4", 2);
        worth("2%4*7", 14);
        worth("17%7%2", 1);
        worth("16/4/2", 2);
        worth("2+3*4", 14);
        worth("3*4+2", 14);
        worth("[2+3]*4", 20);
        worth("20-2*3", 14);
        worth("20-12/4", 17);
    }

    private static void comparisons() {
        is("1<2", "so");
        is("2<2", "not so");
        is("3<2", "not so");
        is("3>2", "so");
        is("2>2", "not so");
        is("1>2", "not so");
        is("2=2", "so");
        is("1=2", "not so");
        is("2=1", "not so");
        is("0-1<0", "so");
        is("0>0-1", "so");
    }

    /** "TEST: BOTH {"or" BOTH}. BOTH: PLAIN {"and" PLAIN}. PLAIN: "not" PLAIN | "(" TEST ")" | .." */
    private static void joined() {
        String[] values = {"not so", "so"};
        for (int bits = 0; bits < 8; bits++) {
            boolean a = (bits & 1) != 0;
            boolean b = (bits & 2) != 0;
            boolean c = (bits & 4) != 0;
            String ta = a ? "1=1" : "1=2";
            String tb = b ? "3>2" : "2>3";
            String tc = c ? "2<3" : "3<2";
            is(ta + " or " + tb + " and " + tc, values[a || b && c ? 1 : 0]);
            is(ta + " and " + tb + " or " + tc, values[a && b || c ? 1 : 0]);
            is("(" + ta + " or " + tb + ") and " + tc, values[(a || b) && c ? 1 : 0]);
            is(ta + " and (" + tb + " or " + tc + ")", values[a && (b || c) ? 1 : 0]);
            is("not " + ta + " or " + tb + " and not " + tc, values[!a || b && !c ? 1 : 0]);
            is("not (" + ta + " or " + tb + ") and " + tc, values[!(a || b) && c ? 1 : 0]);
            is("not not " + ta + " and not (not " + tb + ") or not not not " + tc, values[a && b || !c ? 1 : 0]);
        }
    }

    /** ""or", "and" ask what stands behind only if it can still matter" */
    private static void notAsked() {
        String[] breaking = {"1/0=1", "1=1/0", "1%0<1", "1000*1000*1000+1>0", "not 1/0=1", "(1/0=1)"};
        for (String b : breaking) {
            is(b, "BROKEN");
            is("1=1 or " + b, "so");
            is("1=2 or " + b, "BROKEN");
            is("1=2 and " + b, "not so");
            is("1=1 and " + b, "BROKEN");
            is(b + " or 1=1", "BROKEN");
            is(b + " or 1=2", "BROKEN");
            is(b + " and 1=1", "BROKEN");
            is(b + " and 1=2", "BROKEN");
            is("1=2 or 1=1 or " + b, "so");
            is("1=1 or " + b + " or 1=2", "so");
            is("1=2 or " + b + " or 1=1", "BROKEN");
            is("1=1 and 1=2 and " + b, "not so");
            is("1=2 and " + b + " and 1=1", "not so");
            is("1=1 and " + b + " and 1=2", "BROKEN");
            is("1=2 and " + b + " or 1=1", "so");
            is("1=2 and " + b + " or 1=2", "not so");
            is("1=1 or 1=1 and " + b, "so");
            is("1=2 or 1=2 and " + b, "not so");
            is("1=2 or 1=1 and " + b, "BROKEN");
            is("(1=1 or " + b + ") and 1=1", "so");
            is("(1=1 or " + b + ") and " + b, "BROKEN");
            is("not (1=2 and " + b + ")", "so");
            is("not (1=1 or " + b + ")", "not so");
            is("not 1=1 and " + b, "not so");
            is("not 1=2 or " + b, "so");
        }
    }

    public static void main(String[] args) {
        beyond();
        divided();
        order();
        comparisons();
        joined();
        notAsked();
        Check.finish("TermsTwoSumsTest");
    }
}
