/** Promises 13, 14, 15 and the orders' language. */
public final class OrdersTest {
    private static SunriseRoof site() {
        SunriseRoof x = new SunriseRoof();
        x.part(5, 0, 0, 0);
        x.part(4, 1, 0, 0);
        x.builder(1, 3);
        x.builder(1, 2);
        return x;
    }

    private static void runs() {
        SunriseRoof x = site();
        Check.due("all four kinds", Check.orders(x, "send 0 to 0;tick times 2;send 1 to 1;rest 1;throw 0"), 6);
        Check.due("no fault", x.fault(), -1);
        Check.due("not stopped", x.stopped(), -1);
        Check.due("status", x.status(), 0);
        Check.due("the tape is empty", x.count(6), 0);
        Check.due("each can be undone", x.count(5), 6);
        Check.due("throw", x.undo(), 2);
        Check.due("rest", x.undo(), 1);
        Check.due("send", x.undo(), 0);
        Check.due("tick", x.undo(), 3);
        Check.due("tick", x.undo(), 3);
        Check.due("send", x.undo(), 0);
        Check.due("as it was", x.count(13) + x.of(0, 4), 5);
        Check.due("eight brackets", Check.orders(x, "send [[[[[[[[0]]]]]]]] to [[[[[[[[0]]]]]]]]"), 1);
        Check.due("undone", x.undo(), 0);
        Check.due("20 times", Check.orders(x, "tick times 20"), 20);
        Check.due("16 kept", x.count(5), 16);
        Check.due("none is run", Check.orders(x, "tick times 5 if 1=2"), 0);
    }

    private static void conditions() {
        SunriseRoof x = site();
        Check.due("asked each time", Check.orders(x, "tick times 9 if hour<4"), 4);
        Check.due("a broken if is not run", Check.orders(x, "tick if 1/0=1;tick"), 1);
        Check.due("done", Check.orders(x, "tick if 1=2;tick times 9 if done<2;tick if done=2"), 3);
        Check.due("stood is none at first", Check.orders(x, "tick times 3 if stood=0-1"), 1);
        x.send(0, 0);
        x.tick();
        Check.due("stood of the latest tick", Check.orders(x, "tick times 5 if stood<1;rest 0 if stood=0;send 0 to 1 if standing=1"), 2);
        Check.due("at 1", x.at(0, 3), 1);
        Check.due("words", Check.orders(x, "tick if left 0=0 and left 1=4 and left 9=0-1 and tired 0=2 and tired 5=0-1 and at 0=1 and at 1=0-1 and at 5=0-1"), 1);
        Check.due("sums", Check.orders(x, "rest at 0-1;send left 0 to standing"), 2);
        Check.due("done is of this text alone", Check.orders(x, "tick if done>0"), 0);
        x.terms(0, 77);
        Check.due("hour", Check.orders(x, "tick if hour=77 and done=0;tick if hour=78 and done=1"), 2);
    }

    private static void stops() {
        SunriseRoof x = site();
        x.send(1, 0);
        x.tick();
        String[] wrong = {"send 2 to 0", "send 0 to 2", "send 0 to 1", "send 0-1 to 0", "rest 0", "rest 9", "throw 0", "throw 2",
            "rest 1/0", "send 0 to 1/0", "send 1/0 to 0", "throw 1000*1000*1000*2", "rest 1000*1000*1000"};
        for (int i = 0; i < wrong.length; i++) {
            Check.due(wrong[i], Check.orders(x, "tick;send 0 to 0;" + wrong[i] + (wrong[i].equals("rest 0") ? ";rest 0" : "") + ";tick"), -3);
            Check.due("its clause", x.stopped(), wrong[i].equals("rest 0") ? 3 : 2);
            Check.due("status", x.status(), -3);
            Check.due("no fault", x.fault(), -1);
            Check.due("hour", x.count(13), 1);
            Check.due("left", x.of(0, 4), 3);
            Check.due("at", x.at(0, 3), -1);
            Check.due("what can be undone", x.count(5), 2);
            Check.due("refused by -3, once each", x.count(9), i + 1);
        }
        Check.due("the second time", Check.orders(x, "rest 1 times 2"), -3);
        Check.due("its clause", x.stopped(), 0);
        Check.due("it is at 0 still", x.at(1, 3), 0);
        x.terms(0, 990);
        Check.due("beyond the last hour", Check.orders(x, "tick times 9;tick"), -3);
        Check.due("its clause", x.stopped(), 1);
        Check.due("hour", x.count(13), 990);
        x.tick();
        Check.due("many, then one that can't be", Check.orders(x, "send 0 to 0 times 20;rest 0;rest 0"), -3);
        Check.due("what can be undone is as it was", x.count(5), 1);
        Check.due("it is a tick", x.undo(), 3);
        Check.due("hour", x.count(13), 990);
        Check.due("read, not run", Check.orders(x, "tick ;"), -6);
        Check.due("not stopped", x.stopped(), -1);
        Check.due("a barred one", barred(), -3);
    }

    private static int barred() {
        SunriseRoof x = site();
        Check.rule(x, "bars if builder=0");
        return Check.orders(x, "send 0 to 0");
    }

    private static void faults() {
        Check.fault(true, "", 0);
        Check.fault(true, " ", 1);
        Check.fault(true, "works 1", 0);
        Check.fault(true, "send 1", 6);
        Check.fault(true, "send 1 0", 7);
        Check.fault(true, "send to 0", 5);
        Check.fault(true, "send 1 to", 9);
        Check.fault(true, "rest", 4);
        Check.fault(true, "throw ;", 6);
        Check.fault(true, "tick 1", 5);
        Check.fault(true, "tick times", 10);
        Check.fault(true, "tick times 0", 11);
        Check.fault(true, "tick times 21", 11);
        Check.fault(true, "tick times hour", 11);
        Check.fault(true, "tick times 1+1", 12);
        Check.fault(true, "tick if 1=1 times 2", 12);
        Check.fault(true, "tick times 2 times 2", 13);
        Check.fault(true, "rest left 10", 10);
        Check.fault(true, "rest left", 9);
        Check.fault(true, "rest left left 1", 10);
        Check.fault(true, "rest tired 6", 11);
        Check.fault(true, "rest at 6", 8);
        Check.fault(true, "rest at [1]", 8);
        Check.fault(true, "rest pace", 5);
        Check.fault(true, "rest mood", 5);
        Check.fault(true, "rest 1001", 5);
        Check.fault(true, "to 1", 0);
        Check.fault(true, "rest [[[[[[[[[1]]]]]]]]]", 13);
        Check.fault(true, "send 1 to [[[[[[[[[1]]]]]]]]]", 18);
        Check.fault(true, Check.times("tick;", 12) + " tick", 61);
        Check.fault(true, "rest " + Check.times("1+", 50) + "1", 105);
        Check.fault(true, "rest " + Check.times("left 1+", 50) + "left 1", 355);
        SunriseRoof x = site();
        Check.due("P and B are no parts", Check.orders(x, "tick if 1=2 and " + Check.times("left 1+", 46) + "1=1"), 0);
        Check.due("TIMES are none", Check.orders(x, "tick times 1 if 1=2 and " + Check.times("1+", 46) + "1=1"), 0);
        Check.fault(true, "tick times 1 if 1=2 and " + Check.times("1+", 47) + "1=1", 120);
        Check.due("twelve clauses", Check.orders(x, Check.times("tick;", 11) + "tick"), 12);
        Check.due("a fault", Check.orders(x, "tick tick"), -6);
        Check.due("status", x.status(), -6);
        Check.due("its place", x.fault(), 5);
        Check.due("the tape is empty", x.count(6), 0);
        Check.due("nothing was run", x.count(13), 12);
    }

    public static void main(String[] args) {
        runs();
        conditions();
        stops();
        faults();
        Check.finish("OrdersTest");
    }
}
