/** Terms II, sentence by sentence, of what both languages share: tape, tokens, clauses, numbers, brackets, FAULT, BROKEN. */
public final class TermsTwoTextsTest {
    private static final boolean LAW = false;
    private static final boolean ORDERS = true;

    /** "TEXTS are on a TAPE of at most 400 bytes" */
    private static void fullTape() {
        Check.reads(LAW, "bars" + Check.times(" ", 396));
        Check.reads(LAW, Check.times(" ", 396) + "bars");
        Check.reads(ORDERS, "tick" + Check.times(" ", 396));
        Check.reads(ORDERS, Check.times(" ", 396) + "tick");
        Check.fault(LAW, "bars" + Check.times(" ", 395) + "z", 399);
        Check.fault(LAW, "bars" + Check.times(" ", 395) + ";", 400);
        Check.fault(ORDERS, "tick" + Check.times(" ", 395) + ";", 400);
        Check.fault(LAW, Check.times(" ", 400), 400);
        Check.fault(ORDERS, Check.times(" ", 400), 400);
        Check.fault(LAW, Check.times("z", 400), 0);
        Check.fault(LAW, Check.times("[", 400), 0);
        Check.fault(LAW, "works 1" + Check.times("+", 393), 8);
        Check.reads(LAW, "bars if" + Check.times(" not", 97) + " 1=1");
        Check.reads(ORDERS, "tick if" + Check.times(" not", 97) + " 1=1");
        Check.fault(LAW, "bars if " + Check.times("not ", 98), 400);
        SunriseRoof x = new SunriseRoof();
        Check.fill(x, 1, 1);
        Check.rule(x, "works " + Check.times("0", 393) + "7");
        Check.due("a NUMBER of 394 digits", x.asks(0, 0, 0), 7);
        Check.fault(LAW, "works 1" + Check.times("0", 393), 6);
    }

    /** "TOKENS: longest rows of letters a .. z, of digits, single other bytes, any blanks (32) between" */
    private static void tokens() {
        Check.reads(LAW, "works1");
        Check.reads(LAW, "works1if1=1or2<3and not4>5");
        Check.reads(LAW, "  works   1  if   1   =   1  ");
        Check.reads(LAW, "bars;bars");
        Check.reads(LAW, "bars ; bars");
        Check.reads(LAW, "bars if not(1=1)");
        Check.reads(LAW, "works[pace]*[2]");
        Check.reads(ORDERS, "send0to1;rest1times2if hour<5;throw[0];tick");
        Check.fault(LAW, "barsif 1=1", 0);
        Check.fault(LAW, "bar s", 0);
        Check.fault(LAW, "bars i f", 5);
        Check.fault(LAW, "workspace", 0);
        Check.fault(LAW, "works pacepace", 6);
        Check.fault(LAW, "works 1 0", 8);
        Check.fault(LAW, "works pac e", 6);
        Check.fault(LAW, "bars if not1", 12);
        Check.fault(LAW, "bars if notpace=1", 8);
        Check.fault(LAW, "bars if 1==1", 10);
        Check.fault(LAW, "bars if 1<>1", 10);
        Check.fault(ORDERS, "ticktick", 0);
        Check.fault(ORDERS, "tick times2 0", 12);
        Check.fault(ORDERS, "send0to", 7);
        Check.fault(ORDERS, "sendto0", 0);
    }

    /** Of all 256 bytes which one may stand between two TOKENS, and which goes on with a word or a NUMBER. */
    private static void everyByte() {
        for (int b = 0; b < 256; b++) {
            char sign = (char) b;
            if (b == 32) {
                Check.reads(LAW, "bars" + sign);
                Check.reads(LAW, sign + "bars");
            } else if (b >= 'a' && b <= 'z') {
                Check.fault(LAW, "bars" + sign, 0);
                Check.fault(LAW, sign + "bars", 0);
            } else {
                Check.fault(LAW, "bars" + sign, b == ';' ? 5 : 4);
                Check.fault(LAW, sign + "bars", 0);
            }
            boolean joins = "+-*/%".indexOf(b) >= 0;
            boolean digit = b >= '0' && b <= '9';
            String text = "works 1" + sign + "2";
            if (joins || digit) {
                Check.reads(LAW, text);
            } else {
                Check.fault(LAW, text, b == 32 || b == ';' ? 8 : 7);
            }
            boolean compares = "<>=".indexOf(b) >= 0;
            if (compares) {
                Check.reads(ORDERS, "tick if 1" + sign + "2");
            } else {
                Check.fault(ORDERS, "tick if 1" + sign + "2", joins || digit ? 11 : b == 32 ? 10 : 9);
            }
        }
    }

    /** "CLAUSE {";" CLAUSE}, 12 at most (FAULT at the 13th's first TOKEN)" */
    private static void twelveClauses() {
        String[] heads = {"bars", "tick"};
        for (int i = 0; i < 2; i++) {
            boolean isOrders = i == 1;
            String head = heads[i];
            String eleven = Check.times(head + ";", 11);
            Check.reads(isOrders, head);
            Check.reads(isOrders, eleven + head);
            Check.fault(isOrders, eleven, 55);
            Check.fault(isOrders, eleven + head + ";", 60);
            Check.fault(isOrders, eleven + head + ";  ", 62);
            Check.fault(isOrders, eleven + head + ";" + head, 60);
            Check.fault(isOrders, eleven + head + ";  " + head, 62);
            Check.fault(isOrders, eleven + head + ";z", 60);
            Check.fault(isOrders, eleven + head + ";;", 60);
            Check.fault(isOrders, eleven + head + " " + head, 60);
            Check.fault(isOrders, ";" + head, 0);
            Check.fault(isOrders, head + ";;" + head, 5);
            Check.fault(isOrders, "", 0);
            Check.fault(isOrders, " ", 1);
            Check.fault(isOrders, Check.times(" ", 20), 20);
        }
    }

    /** "NUMBER (to 1,000)" */
    private static void numbers() {
        String[] can = {"0", "1", "999", "1000", "0000", "01000", "0000000000000000001000"};
        for (String n : can) {
            Check.reads(LAW, "works " + n);
            Check.reads(ORDERS, "rest " + n);
        }
        String[] cannot = {"1001", "1010", "1100", "2000", "9999", "10000", "001001", "2147483647", "2147483648", "4294967296", "4294967297",
            "4294968295", "9223372036854775807", "18446744073709551616", "18446744073709551617", "99999999999999999999999999"};
        for (String n : cannot) {
            Check.fault(LAW, "works " + n, 6);
            Check.fault(LAW, "works 1+" + n, 8);
            Check.fault(LAW, "bars if 1=" + n, 10);
            Check.fault(ORDERS, "rest " + n, 5);
            Check.fault(ORDERS, "tick times " + n, 11);
            Check.fault(ORDERS, "rest left " + n, 10);
        }
        Check.fault(LAW, "works -1", 6);
    }

    /** "50 PARTS that are NUMBERS and words (FAULT at the 51st)" */
    private static void fiftyParts() {
        String fifty = "works " + Check.times("1+", 49) + "1";
        Check.reads(LAW, fifty);
        Check.fault(LAW, fifty + "+1", 106);
        Check.fault(LAW, fifty + "+pace", 106);
        Check.fault(LAW, fifty + "+ pace", 107);
        Check.fault(LAW, fifty + "+[1]", 107);
        Check.fault(LAW, fifty + "+", 106);
        Check.fault(LAW, fifty + " if 1=1", 109);
        Check.fault(LAW, fifty + ";tires 1", 112);
        Check.reads(LAW, fifty + ";bars");
        String words = "works " + Check.times("mood*", 49) + "mood";
        Check.reads(LAW, words);
        Check.fault(LAW, words + "*mood", 6 + 250);
        Check.fault(LAW, words + "*0", 6 + 250);
        Check.reads(LAW, "works " + Check.times("[1]+", 49) + "[1]");
        Check.fault(LAW, "works " + Check.times("[1]+", 50) + "[1]", 207);
        Check.reads(LAW, Check.times("works 1 if 1=1;", 11) + "works 1" + Check.times("+1", 16));
        Check.fault(LAW, Check.times("works 1 if 1=1;", 11) + "works 1" + Check.times("+1", 17), 205);
        String many = "rest " + Check.times("1+", 49) + "1";
        Check.reads(ORDERS, many);
        Check.fault(ORDERS, many + "+1", 105);
        Check.fault(ORDERS, many + "+at 0", 105);
        Check.fault(ORDERS, many + "+at 6", 105);
        Check.fault(ORDERS, many + ";rest 1", 110);
        Check.reads(ORDERS, many + ";tick times 5");
        Check.reads(ORDERS, "rest " + Check.times("left 9+", 49) + "left 9");
        Check.fault(ORDERS, "rest " + Check.times("left 9+", 50) + "left 9", 355);
        Check.reads(ORDERS, "rest " + Check.times("at 5+", 49) + "at 5 times 20");
        Check.fault(ORDERS, "rest " + Check.times("at 5+", 50) + "at 5 times 20", 255);
        Check.reads(ORDERS, "send " + Check.times("1+", 24) + "1 to " + Check.times("1+", 24) + "1 times 9");
        Check.fault(ORDERS, "send " + Check.times("1+", 24) + "1 to " + Check.times("1+", 25) + "1", 5 + 53 + 50);
    }

    /** "8 brackets of both kinds within one another (FAULT at the 9th) at most" */
    private static void eightBrackets() {
        for (int round = 0; round <= 8; round++) {
            String open = Check.times("(", round) + Check.times("[", 8 - round);
            String close = Check.times("]", 8 - round);
            String ends = Check.times(")", round);
            Check.reads(LAW, "bars if " + open + "1" + close + "=1" + ends);
            Check.reads(ORDERS, "tick if " + open + "1" + close + "=1" + ends);
            Check.reads(LAW, "bars if " + Check.times("(", round) + "1=" + Check.times("[", 8 - round) + "1" + close + ends);
            Check.fault(LAW, "bars if (" + open + "1" + close + "=1" + ends + ")", 16);
            Check.fault(ORDERS, "tick if (" + open + "1" + close + "=1" + ends + ")", 16);
            Check.fault(LAW, "bars if " + open + "[1]" + close + "=1" + ends, 16);
        }
        Check.reads(LAW, "works [[[[[[[[1]]]]]]]]+[[[[[[[[1]]]]]]]]");
        Check.fault(LAW, "works [[[[[[[[1]]]]]]]]+[[[[[[[[[1]]]]]]]]]", 32);
        Check.fault(LAW, "works [[[[[[[[[1]]]]]]]]]", 14);
        Check.fault(ORDERS, "rest [[[[[[[[[1]]]]]]]]]", 13);
        Check.fault(ORDERS, "throw [[[[[[[[[1]]]]]]]]]", 14);
        Check.fault(ORDERS, "send [[[[[[[[[1]]]]]]]]] to 1", 13);
        Check.reads(ORDERS, "send [[[[[[[[1]]]]]]]] to [[[[[[[[1]]]]]]]] if ((((((((1=1))))))))");
        Check.fault(ORDERS, "send 1 to [[[[[[[[[1]]]]]]]]]", 18);
        Check.fault(LAW, "bars if ((((((((not (1=1)))))))))", 20);
        Check.reads(LAW, "bars if (((((((not (1=1))))))))");
        Check.fault(LAW, "bars if ((((((((1=1 or (1=1)))))))))", 23);
        Check.fault(LAW, "works []", 7);
        Check.fault(LAW, "bars if ()", 9);
        Check.fault(LAW, "works [1", 8);
        Check.fault(LAW, "works 1]", 7);
        Check.fault(LAW, "bars if (1=1", 12);
        Check.fault(LAW, "bars if 1=1)", 11);
        Check.fault(LAW, "bars if ([1)=1]", 11);
        Check.fault(LAW, "works (1)", 6);
        Check.fault(LAW, "bars if [1=1]", 10);
    }

    /** "FAULT: the first TOKEN that can't go on there (the end's: the TEXT's length)": each place where a TEXT may end too soon. */
    private static void everyCut() {
        String[] laws = {"works", "works 1+", "works [", "works [1", "works [1+", "bars if", "bars if not", "bars if (", "bars if 1", "bars if 1=",
            "bars if (1=1", "bars if 1=1 and", "bars if 1=1 or", "bars if 1=1 or not", "bars;", "works 1*", "works 1-", "works 1/", "works 1%",
            "bars if 1<", "bars if 1>", "shows", "tires"};
        for (String text : laws) {
            Check.fault(LAW, text, text.length());
            Check.fault(LAW, text + "   ", text.length() + 3);
            Check.fault(LAW, text + " ;", text.length() + 1);
        }
        String[] orders = {"send", "send 1", "send 1+", "send 1 to", "send 1 to 1-", "rest", "throw", "tick times", "tick if", "tick;", "rest left",
            "rest tired", "rest at", "tick times 1 if", "tick if left", "rest 1 times"};
        for (String text : orders) {
            Check.fault(ORDERS, text, text.length());
            Check.fault(ORDERS, text + "  ", text.length() + 2);
            Check.fault(ORDERS, text + " ;", text.length() + 1);
        }
    }

    /** What the other language has: its heads and words are no TOKENS that go on here. */
    private static void otherLanguage() {
        String[] lawHeads = {"works 1", "tires 1", "shows 1", "bars"};
        String[] orderHeads = {"send 1 to 1", "rest 1", "throw 1", "tick"};
        String[] lawWords = {"builder", "pace", "part", "craft", "heavy", "with", "mood"};
        String[] orderWords = {"done", "stood", "standing", "at"};
        for (int i = 0; i < 4; i++) {
            Check.reads(LAW, lawHeads[i]);
            Check.reads(ORDERS, orderHeads[i]);
            Check.fault(ORDERS, lawHeads[i], 0);
            Check.fault(LAW, orderHeads[i], 0);
        }
        for (String word : lawWords) {
            Check.reads(LAW, "works " + word);
            Check.fault(ORDERS, "rest " + word, 5);
        }
        for (String word : orderWords) {
            Check.fault(LAW, "works " + word, 6);
        }
        Check.reads(LAW, "works left");
        Check.reads(LAW, "works tired");
        Check.reads(LAW, "works hour");
        Check.reads(ORDERS, "rest hour");
        Check.fault(LAW, "works left 1", 11);
        Check.fault(LAW, "works 1 times 2", 8);
        Check.fault(LAW, "works 1 to 2", 8);
        Check.fault(LAW, "bars 1", 5);
        Check.fault(ORDERS, "tick 1", 5);
        String[] noOperands = {"or", "and", "not", "if", "works", "bars", "send", "tick", "to", "times", "z", "(", ")", "]", "+", "-", "*", "<", "=", ";"};
        for (String token : noOperands) {
            Check.fault(LAW, "works " + token, 6);
            Check.fault(ORDERS, "rest " + token, 5);
        }
    }

    public static void main(String[] args) {
        fullTape();
        tokens();
        everyByte();
        twelveClauses();
        numbers();
        fiftyParts();
        eightBrackets();
        everyCut();
        otherLanguage();
        Check.finish("TermsTwoTextsTest");
    }
}
