/** The edges that Terms 4 and promises 30 to 34 name. */
public final class TextsEdgesTest {
    private static final int BAD = RegretLocks.BAD, FULL = RegretLocks.FULL, NONE = RegretLocks.NONE;
    private static final int LEAST = Integer.MIN_VALUE, MOST = Integer.MAX_VALUE;

    public static void main(String[] args) {
        fed();
        bytesOfNumbers();
        trimmed();
        usedUp();
        fourteenTexts();
        faultAheadOfFull();
        fourDigits();
        keys();
        names();
        blanks();
        blanksBetweenWords();
        otherBytes();
        endsTooSoon();
        oneTest();
        signs();
        ninthBracket();
        ninthNot();
        eachByItself();
        placesOfAFullTape();
        firstFault();
        nothingIsLeftOver();
        wraps();
        byZero();
        truths();
        bothSides();
        toldLast();
        textTold();
        why();
        Due.end("TextsEdgesTest");
    }

    private static void fault(String text, int place) {
        Due.due("'" + text + "'", -100 - place, Due.text(new RegretLocks(), text));
    }

    private static void sound(String text) {
        Due.due("'" + text + "'", 0, Due.text(new RegretLocks(), text));
    }

    private static void value(String expression, int due) {
        RegretLocks x = new RegretLocks();
        Due.law(x, "fee " + expression);
        Due.due("fee " + expression, due, x.fee());
    }

    private static void fed() {
        Due.of("Promise 30: twelve bytes come: how many it has. FULL: it would have more than 96");
        RegretLocks x = new RegretLocks();
        for (int i = 1; i <= 8; i++) {
            Due.due("feed " + i, 12 * i, x.feed(0x20202020, 0x20202020, 0x20202020));
        }
        Due.due("a ninth", FULL, x.feed(0, 0, 0));
        Due.due("96", 96, x.count(7));
        for (int n : new int[] {95, 86, 85, 84, 83, 73, 72, 1, 0}) {
            x.trim(n);
            Due.due("feed to " + n, n > 84 ? FULL : n + 12, x.feed(0, 0, 0));
            Due.due("so many", n > 84 ? n : n + 12, x.count(7));
        }
    }

    private static void bytesOfNumbers() {
        Due.of("Promise 30: the highest of each number first");
        RegretLocks x = new RegretLocks();
        x.feed(0x66656520, 0x31322b33, 0x34202020);
        Due.due("fee 12+34", 0, x.text());
        Due.due("fee 12+34", 46, x.fee());
        x.feed(0x66656520, 0x31202020, 0x202020FF);
        Due.due("the lowest of the last is the last byte", -111, x.text());
        x.feed(LEAST, 0, 0);
        Due.due("the highest of the first is the first byte", -100, x.text());
        x.feed(0x66656520, 0xFF202031, 0);
        Due.due("a byte above 127", -104, x.text());
    }

    private static void trimmed() {
        Due.of("Promise 31: THE TAPE keeps its first n bytes: n. BAD");
        RegretLocks x = new RegretLocks();
        Due.due("nothing of nothing", 0, x.trim(0));
        Due.due("one of nothing", BAD, x.trim(1));
        Due.due("-1 of nothing", BAD, x.trim(-1));
        Due.feed(x, "fee 123456789");
        Due.due("all 13", 13, x.trim(13));
        for (int n : new int[] {14, 96, 97, -1, LEAST, MOST}) {
            Due.due("trim(" + n + ") of 13", BAD, x.trim(n));
        }
        Due.due("13 still", 13, x.count(7));
        Due.due("all but one", 12, x.trim(12));
        Due.due("not all of it again", BAD, x.trim(13));
        Due.due("five", 5, x.trim(5));
        Due.due("a text of five", 0, x.text());
        Due.due("its first byte alone", 1, x.fee());
        Due.feed(x, "fee 9");
        Due.due("to nothing", 0, x.trim(0));
        Due.due("nothing is a text too short", -100, x.text());
    }

    private static void usedUp() {
        Due.of("Terms 4: an act that reads THE TAPE uses it up, whatever it answers");
        RegretLocks x = new RegretLocks();
        Due.due("nothing", -100, x.text());
        Due.due("used up", 0, x.count(7));
        Due.feed(x, "fee ?");
        Due.due("a fault", -104, x.text());
        Due.due("used up", 0, x.count(7));
        Due.due("and gone", -100, x.text());
        Due.feed(x, "fee 1");
        Due.due("a text", 0, x.text());
        Due.due("used up", 0, x.count(7));
        Due.due("and gone", -100, x.text());
        for (int i = 1; i < 14; i++) {
            Due.law(x, "fee " + i);
        }
        Due.feed(x, "fee 14");
        Due.due("a fifteenth", FULL, x.text());
        Due.due("used up", 0, x.count(7));
        Due.due("and gone", -100, x.text());
        Due.due("what came behind stands at its beginning", 12, x.feed(1, 2, 3));
    }

    private static void fourteenTexts() {
        Due.of("Terms 4: TEXTS, 14 at most, numbered from 0");
        RegretLocks x = new RegretLocks();
        String[] keys = {"wear", "fee", "fine"};
        for (int i = 0; i < 14; i++) {
            Due.due("there is no text " + i + " yet", BAD, x.textTold(i, 0));
            Due.due("text " + i, i, Due.text(x, keys[i % 3] + " " + i));
            Due.due("its key", i % 3, x.textTold(i, 0));
            Due.due("so many", i + 1, x.count(5));
        }
        Due.of("Promise 32: FULL");
        for (String key : keys) {
            Due.due("a fifteenth", FULL, Due.text(x, key + " 99"));
        }
        Due.due("fourteen", 14, x.count(5));
        Due.due("there is no fifteenth", BAD, x.textTold(14, 0));
        Due.due("a fifteenth does not count", 13, x.fee());
        Due.due("a fifteenth does not count", 12, x.why(0));
        x.keep();
        x.back();
        Due.due("a fifteenth behind a way back", FULL, Due.text(x, "fee 1"));
    }

    private static void faultAheadOfFull() {
        Due.of("Promise 32: -100 less the place of its FAULT; FULL: of both the first");
        RegretLocks x = new RegretLocks();
        for (int i = 0; i < 14; i++) {
            Due.law(x, "fee " + i);
        }
        Due.due("a fault", -104, Due.text(x, "fee )"));
        Due.due("an end too soon", -104, Due.text(x, "fee "));
        Due.due("nothing", -100, x.text());
        Due.due("none", FULL, Due.text(x, "fee 1"));
    }

    private static void fourDigits() {
        Due.of("Terms 4: NUMBER (1 to 4 digits); FAULT: a NUMBER of more than 4 digits");
        value("0", 0);
        value("9", 9);
        value("10", 10);
        value("999", 999);
        value("9999", 9999);
        value("0000", 0);
        value("0010", 10);
        fault("fee 10000", 4);
        fault("fee 00000", 4);
        fault("fee 00001+1", 4);
        fault("fee 1+12345", 6);
        fault("fee 123456789012345678901234567890", 4);
        fault("fee (((99999)))", 7);
    }

    private static void keys() {
        Due.of("Terms 4: KEY: wear | fee | fine");
        sound("wear 1");
        sound("fee 1");
        sound("fine 1");
        for (String key : new String[] {"wea", "wears", "fe", "fees", "fin", "fines", "Fee", "FEE", "f", "e", "feefine", "a", "z", "feea", "feez", "wearz", "zfee", "xear", "gee", "pine", "wxar", "fex", "finx"}) {
            fault(key + " 1", 0);
            fault("   " + key + " 1", 3);
        }
        fault("1 fee", 0);
        fault("(fee 1)", 0);
        fault("!fee 1", 0);
        fault("fee fee 1", 4);
        fault("fee wear", 4);
    }

    private static void names() {
        Due.of("Terms 4: NAMES, each one letter: of wear r, s, t; of fee e, h; of fine r, o");
        String[] keys = {"wear", "fee", "fine"};
        String[] names = {"rst", "eh", "ro"};
        for (int key = 0; key < 3; key++) {
            for (char c = 'a'; c <= 'z'; c++) {
                String text = keys[key] + " " + c;
                if (names[key].indexOf(c) >= 0) {
                    sound(text);
                    fault(text + c, keys[key].length() + 1);
                    fault(text + " " + c, keys[key].length() + 3);
                } else {
                    fault(text, keys[key].length() + 1);
                }
            }
            fault(keys[key] + " R", keys[key].length() + 1);
        }
    }

    private static void blanks() {
        Due.of("Terms 4: between words and signs, and at the ends, there may be blanks (byte 32)");
        sound("fee(1)");
        sound("fee!1");
        sound("fee ( 1 )");
        sound("    fee    1    ");
        sound("fee   !   !   (   1   +   e   *   2   )   |   0   &   1   <   3");
        sound("fee 1+e*2");
        sound(" ".repeat(91) + "fee 1");
        sound("fee" + " ".repeat(92) + "1");
        sound("fee 1" + " ".repeat(91));
        value("  12  /  5  ", 2);
    }

    private static void blanksBetweenWords() {
        Due.of("Terms 4: a word right behind another one needs one; FAULT: a word that needs a blank ahead of it");
        fault("fee1", 3);
        fault("wear1+2", 4);
        fault("fine12345", 4);
        fault("fee 1e", 5);
        fault("fee e1", 5);
        fault("fee 12e+1", 6);
        fault("fee 1 2", 6);
        fault("fee 1 e", 6);
        fault("fee e 1", 6);
        fault("fee (1)2", 7);
        fault("fee (1)e", 7);
        Due.of("Terms 4: a word is a row of letters, or of digits, as long as it goes");
        fault("feee", 0);
        fault("fee ee", 4);
        fault("fee eh", 4);
        fault("fee ea", 4);
        fault("fee ez", 4);
        fault("fee ze", 4);
        fault("fee 10009", 4);
        fault("fee 90001", 4);
        fault("fine ro", 5);
    }

    private static void otherBytes() {
        Due.of("Terms 4: any other byte is a sign by itself");
        String known = "+-*/<=>|&!() ";
        for (int b = 0; b < 256; b++) {
            char c = (char) b;
            boolean word = c >= 'a' && c <= 'z' || c >= '0' && c <= '9';
            if (known.indexOf(c) < 0 && !word) {
                fault(c + "fee 1", 0);
                fault("fee" + c + "1", 3);
                fault("fee 1" + c, 5);
                fault("fee 1+" + c + "1", 6);
                fault("fee 1 " + c, 6);
            }
        }
    }

    private static void endsTooSoon() {
        Due.of("Terms 4: FAULT: the end (the place behind the last byte), if it comes too soon");
        String[] texts = {"", "  ", "fee", "fee ", "fee   ", "fee !", "fee ! ", "fee (", "fee (1", "fee (1 ", "fee ((1)", "fee 1+",
            "fee 1-", "fee 1*", "fee 1/", "fee 1<", "fee 1=", "fee 1>", "fee 1|", "fee 1&", "fee 1& ", "fee (1+", "fee !(1|",
            "wear", "fine   "};
        for (String text : texts) {
            fault(text, text.length());
        }
        fault("fee 1" + "+1".repeat(45) + "+", 96);
        fault(" ".repeat(96), 96);
        fault("fee" + " ".repeat(93), 96);
    }

    private static void oneTest() {
        Due.of("Terms 4: TEST: SUM [ (< | = | >) SUM ]");
        for (char first : "<=>".toCharArray()) {
            for (char second : "<=>".toCharArray()) {
                fault("fee 1" + first + "2" + second + "3", 7);
                fault("fee 1" + first + "2+4*5" + second + "3", 11);
                fault("fee (1" + first + "2" + second + "3)", 8);
                fault("fee 1" + first + second + "3", 6);
                sound("fee (1" + first + "2)" + second + "3");
                sound("fee 1" + first + "(2" + second + "3)");
                sound("fee 1" + first + "2&3" + second + "4");
                sound("fee 1" + first + "2|3" + second + "4");
                sound("fee !(1" + first + "2)" + second + "3");
            }
        }
    }

    private static void signs() {
        Due.of("Terms 4: E: what may stand where");
        for (char c : "+-*/<=>|&".toCharArray()) {
            sound("fee 1" + c + "2");
            sound("fee (1)" + c + "!2");
            fault("fee " + c + "1", 4);
            fault("fee (" + c + "1)", 5);
            fault("fee !" + c + "1", 5);
            fault("fee 1" + c + c + "1", 6);
            fault("fee (1" + c + ")", 7);
        }
        fault("fee )", 4);
        fault("fee ()", 5);
        fault("fee 1)", 5);
        fault("fee (1))", 7);
        fault("fee (1)(", 7);
        fault("fee 1(", 5);
        fault("fee 1!", 5);
        fault("fee (1)!", 7);
    }

    private static void ninthBracket() {
        Due.of("Terms 4: FAULT: the ninth ( that would be open within others");
        for (int deep = 1; deep <= 12; deep++) {
            String text = "fee " + "(".repeat(deep) + "1" + ")".repeat(deep);
            Due.due(text, deep <= 8 ? 0 : -100 - 12, Due.text(new RegretLocks(), text));
        }
        sound("fee ((((((((1))))))))+((((((((1))))))))");
        fault("fee ((((((((1))))))))+(((((((((1)))))))))", 30);
        sound("fee (((((((1+(2))+(3)))))))");
        fault("fee ((((((((1+(2)))))))))", 14);
        value("((((((((7))))))))*2", 14);
    }

    private static void ninthNot() {
        Due.of("Terms 4: FAULT: the ninth ! likewise");
        for (int deep = 1; deep <= 12; deep++) {
            String text = "fee " + "!".repeat(deep) + "1";
            Due.due(text, deep <= 8 ? 0 : -100 - 12, Due.text(new RegretLocks(), text));
        }
        sound("fee !!!!!!!!1+!!!!!!!!1");
        sound("fee (!!!!!!!!1)+!!!!!!!!(1)");
        fault("fee !!!!!!!!1+!!!!!!!!!1", 22);
        fault("fee !!!!(!!!!(!1))", 14);
        fault("fee !!!!(!!!!1+!!!!!1)", 19);
        sound("fee !!!!(!!!!1+!!!!1)");
        value("!!!!!!!!7", 1);
        value("!!!!!!!7", 0);
    }

    private static void eachByItself() {
        Due.of("Terms 4: FAULT: each by itself");
        sound("fee !(!(!(!(!(!(!(!(1))))))))");
        sound("fee !!!!!!!!((((((((1))))))))");
        sound("fee ((((((((!!!!!!!!1))))))))");
        fault("fee !(!(!(!(!(!(!(!(!1))))))))", 20);
        fault("fee !(!(!(!(!(!(!(!((1)))))))))", 20);
    }

    private static void placesOfAFullTape() {
        Due.of("Terms 4: THE TAPE (96 bytes at most)");
        String full = "fee 1" + "+1".repeat(45) + " ";
        Due.due("96 bytes", 96, full.length());
        RegretLocks x = new RegretLocks();
        Due.law(x, full);
        Due.due("its value", 46, x.fee());
        Due.due("its numbers", 46, x.textTold(0, 1));
        fault(full.substring(0, 95) + "?", 95);
        fault(full.substring(0, 95) + "+", 96);
        Due.law(x, "fee " + "!".repeat(8) + "(".repeat(8) + "e" + "-e".repeat(33) + ")".repeat(8) + " ");
        Due.due("its names", 34, x.textTold(1, 1));
        Due.law(x, "fee  1" + "-1".repeat(45));
        Due.due("to the last byte", -44, x.fee());
    }

    private static void firstFault() {
        Due.of("Terms 4: FAULT: of the first word or sign with which no TEXT goes on");
        fault("fee ? 12345 (((((((((", 4);
        fault("fee 1 12345 ?", 6);
        fault("fee 12345 12345", 4);
        fault("fie 12345", 0);
        fault("fee (1 ?", 7);
        fault("fee 1+12345+?", 6);
    }

    private static void nothingIsLeftOver() {
        Due.of("Terms 4: a refused text is gone with all that it left open");
        String[] broken = {"fee !", "fee 1<", "fee 1|2&3=4+5*", "fee !!!!!!!!", "fee ((((((((", "fee !(!(1*", "wear r", "fee 12345"};
        for (String text : broken) {
            RegretLocks x = new RegretLocks();
            Due.text(x, text);
            int texts = x.count(5);
            Due.due("behind '" + text + "'", texts, Due.text(x, "fee 2<3"));
            Due.due("its value behind '" + text + "'", 1, x.fee());
            Due.due("its numbers behind '" + text + "'", 2, x.textTold(texts, 1));
            Due.text(x, text);
            Due.law(x, "fee !!!!!!!!((((((((7))))))))");
            Due.due("its value behind '" + text + "'", 1, x.fee());
            Due.text(x, text);
            Due.law(x, "fee 7");
            Due.due("its value behind '" + text + "'", 7, x.fee());
            Due.text(x, text);
            Due.due("a bracket closed behind '" + text + "'", -105, Due.text(x, "fee 1)"));
            Due.due("a word behind '" + text + "'", -103, Due.text(x, "fee1"));
        }
    }

    private static void wraps() {
        Due.of("Terms 4: ints wrap");
        value("32*8192*8192", LEAST);
        value("32*8192*8192-1", MOST);
        value("0-32*8192*8192", LEAST);
        value("32*8192*8192-1+1", LEAST);
        value("64*8192*8192", 0);
        value("32*8192*8192*2+5", 5);
        value("9999*9999*9999*9999", 9999 * 9999 * 9999 * 9999);
        value("32*8192*8192<0", 1);
        value("32*8192*8192-1>0", 1);
        value("32*8192*8192/(0-1)", LEAST);
        value("32*8192*8192/(0-1)<0", 1);
    }

    private static void byZero() {
        Due.of("Terms 4: / is 0 by 0; Terms: / cuts towards 0");
        value("7/0", 0);
        value("0/0", 0);
        value("(0-7)/0", 0);
        value("32*8192*8192/0", 0);
        value("5+7/0*9", 5);
        value("7/(1-1)", 0);
        value("e/h", 0);
        value("7/2", 3);
        value("(0-7)/2", -3);
        value("7/(0-2)", -3);
        value("(0-7)/(0-2)", 3);
        value("1/2", 0);
        value("(0-1)/2", 0);
    }

    private static void truths() {
        Due.of("Terms 4: tests, & | ! give 1 or 0 (what is not 0 is true)");
        value("2&3", 1);
        value("2|0", 1);
        value("0|2", 1);
        value("(0-1)&(0-2)", 1);
        value("0&2", 0);
        value("2&0", 0);
        value("0|0", 0);
        value("0&0", 0);
        value("!0", 1);
        value("!2", 0);
        value("!(0-1)", 0);
        value("!!9999", 1);
        value("5<6", 1);
        value("6<6", 0);
        value("7<6", 0);
        value("5=6", 0);
        value("6=6", 1);
        value("5>6", 0);
        value("6>6", 0);
        value("7>6", 1);
        value("(0-1)<0", 1);
    }

    private static void bothSides() {
        Due.of("Terms 4: both sides are worked out");
        value("0&7/0", 0);
        value("1|7/0", 1);
        value("7/0|1", 1);
        value("7/0&1", 0);
        value("1|32*8192*8192/(0-1)", 1);
        Due.of("Terms 4: E, the loosest first; to the left first");
        value("1|1&0", 1);
        value("1&0|1", 1);
        value("0&1=0", 0);
        value("1+1=2", 1);
        value("2+3*4", 14);
        value("9-4-3", 2);
        value("100/10/5", 2);
        value("100/10*5", 50);
        value("7*2/4", 3);
        value("!1+1", 1);
        value("!0*5", 5);
        value("!1=0", 1);
        value("!e+1", 2);
        value("!(e)+1", 2);
        value("!!e+1", 1);
        Due.of("Terms 4: PIECE: ( E )");
        value("4*(0|7)", 4);
        value("4*(0|7&0)", 0);
        value("(1|0)*5+(2<1|3)", 6);
        value("2*(3+(4-(5|6)))", 12);
    }

    private static void toldLast() {
        Due.of("Terms 4: of a KEY that TEXT counts that was told last");
        RegretLocks x = new RegretLocks();
        Due.law(x, "fee 1");
        Due.law(x, "fee 2");
        Due.due("the last", 2, x.fee());
        Due.text(x, "fee 3?");
        Due.due("one with a fault does not count", 2, x.fee());
        Due.law(x, "fine 4");
        Due.law(x, "wear 5");
        Due.due("those of other keys do not count", 2, x.fee());
        Due.law(x, "fee 1");
        Due.due("the same as one before is another one", 4, x.why(1));
        for (int i = 5; i < 14; i++) {
            Due.law(x, "fee " + i);
        }
        Due.text(x, "fee 14");
        Due.due("one too many does not count", 13, x.fee());
    }

    private static void textTold() {
        Due.of("Promise 33: how many NUMBERS and NAMES it has");
        RegretLocks x = new RegretLocks();
        Due.law(x, "wear((((((((!!!!!!!!r))))))))");
        Due.law(x, "fine 1");
        Due.law(x, "wear r+r*(s-1)<t|!0012&9999=r");
        int[][] due = {{0, 1}, {2, 1}, {0, 8}};
        for (int i = 0; i < due.length; i++) {
            Due.due("key of " + i, due[i][0], x.textTold(i, 0));
            Due.due("pieces of " + i, due[i][1], x.textTold(i, 1));
        }
        Due.of("Promise 33: BAD");
        for (int none : new int[] {-1, 3, 14, LEAST, MOST}) {
            Due.due("text " + none, BAD, x.textTold(none, 0));
        }
        for (int none : new int[] {-1, 2, LEAST, MOST}) {
            Due.due("what " + none, BAD, x.textTold(0, none));
        }
        x.keep();
        Due.law(x, "fee 1");
        x.back();
        Due.due("a text behind the image is none", BAD, x.textTold(3, 0));
    }

    private static void why() {
        Due.of("Promise 34: BAD; NONE");
        RegretLocks x = new RegretLocks();
        for (int key = 0; key < 3; key++) {
            Due.due("no text of key " + key, NONE, x.why(key));
        }
        for (int none : new int[] {-1, 3, LEAST, MOST}) {
            Due.due("key " + none, BAD, x.why(none));
        }
        Due.law(x, "fine 1");
        x.keep();
        Due.law(x, "fee 1");
        Due.law(x, "fine 2");
        Due.due("fine", 2, x.why(2));
        Due.due("fee", 1, x.why(1));
        Due.due("wear", NONE, x.why(0));
        x.back();
        Due.due("fine by the image", 0, x.why(2));
        Due.due("fee by the image", NONE, x.why(1));
    }
}
