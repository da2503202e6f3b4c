/** Promises 30 to 34: texts. */
public final class TextsTest {
    private static final int BAD = RegretLocks.BAD, FULL = RegretLocks.FULL, NONE = RegretLocks.NONE;

    public static void main(String[] args) {
        promise30Feed();
        promise31Trim();
        promise32Faults();
        promise32Nesting();
        promise32Bytes();
        promise32Values();
        promise32Again();
        promise32Full();
        promise33TextTold();
        promise34Why();
        Due.end("TextsTest");
    }

    private static int four(String s) {
        return s.charAt(0) << 24 | s.charAt(1) << 16 | s.charAt(2) << 8 | s.charAt(3);
    }

    private static void promise30Feed() {
        RegretLocks x = new RegretLocks();
        Due.due("twelve bytes", 12, x.feed(four("fee "), four("12+3"), four("    ")));
        Due.due("told", 12, x.count(7));
        Due.due("the highest of each first", 0, x.text());
        Due.due("fee", 15, x.fee());
        for (int i = 1; i <= 8; i++) {
            Due.due("feed " + i, 12 * i, x.feed(i, -i, 0));
        }
        Due.due("a ninth", FULL, x.feed(0, 0, 0));
        Due.due("96 stay", 96, x.count(7));
        x.trim(85);
        Due.due("85 and 12 are too many", FULL, x.feed(0, 0, 0));
        Due.due("85 stay", 85, x.count(7));
        x.trim(84);
        Due.due("84 and 12 are not", 96, x.feed(0, 0, 0));
        x.trim(0);
        // a tape of 96 bytes is read to its end
        StringBuilder long96 = new StringBuilder("fee ");
        while (long96.length() < 95) {
            long96.append("1+");
        }
        long96.setLength(95);
        Due.feed(x, long96.append(long96.charAt(94) == '+' ? "9" : " ").toString());
        Due.due("96 bytes", 96, x.count(7));
        Due.due("a long text", 1, x.text());
        Due.holds("its value", x.fee() > 40);
        Due.due("its numbers", 46, x.textTold(1, 1));
    }

    private static void promise31Trim() {
        RegretLocks x = new RegretLocks();
        Due.due("nothing to trim", 0, x.trim(0));
        Due.due("more than there is", BAD, x.trim(1));
        Due.due("below 0", BAD, x.trim(-1));
        x.feed(four("fee "), four("1234"), four("5678"));
        Due.due("all", 12, x.trim(12));
        Due.due("more than there is", BAD, x.trim(13));
        Due.due("the first seven", 7, x.trim(7));
        Due.due("told", 7, x.count(7));
        Due.due("a text", 0, x.text());
        Due.due("the first seven count", 123, x.fee());
        Due.due("used up", 0, x.count(7));
    }

    private static void fault(String text, int place) {
        RegretLocks x = new RegretLocks();
        Due.due("fault of '" + text + "'", -100 - place, Due.text(x, text));
        Due.due("used up", 0, x.count(7));
        Due.due("no text", 0, x.count(5));
    }

    private static void sound(String text) {
        RegretLocks x = new RegretLocks();
        Due.due("no fault of '" + text + "'", 0, Due.text(x, text));
        Due.due("used up", 0, x.count(7));
    }

    private static void promise32Faults() {
        fault("", 0);
        fault("   ", 3);
        fault("wear", 4);
        fault("  fine  ", 8);
        fault("fees 1", 0);
        fault(" wea r", 1);
        fault("Wear 1", 0);
        fault("1", 0);
        fault("(", 0);
        fault("wear2", 4);
        fault("wearr", 0);
        fault("xear 1", 0);
        fault("gee 1", 0);
        fault("pine 1", 0);
        fault("wea 1", 0);
        fault("wearz 1", 0);
        fault("wear rz", 5);
        fault("wear zr", 5);
        fault("wear ra", 5);
        fault("wear a", 5);
        fault("wear z", 5);
        fault("fee2 + 2", 3);
        fault("wear 2r", 6);
        fault("wear r2", 6);
        fault("wear 2 2", 7);
        fault("wear r r", 7);
        fault("wear rs", 5);
        fault("wear e", 5);
        fault("wear 1+h", 7);
        fault("fee r", 4);
        fault("fine t", 5);
        fault("fine e", 5);
        fault("fee o", 4);
        fault("wear 12345", 5);
        fault("wear 00001", 5);
        fault("wear r+00001", 7);
        fault("wear -1", 5);
        fault("wear +1", 5);
        fault("wear 1+", 7);
        fault("wear 1+ ", 8);
        fault("wear 1++1", 7);
        fault("wear 1<2<3", 8);
        fault("wear 1<2+3=4", 10);
        fault("wear 1=2>3", 8);
        fault("wear (1<2<3)", 9);
        fault("wear 1&2<3|4>5=6", 14);
        fault("wear <1", 5);
        fault("wear 1<=2", 7);
        fault("wear 1!2", 6);
        fault("wear 1 ! 2", 7);
        fault("wear !", 6);
        fault("wear !+", 6);
        fault("wear (1", 7);
        fault("wear (1 ", 8);
        fault("wear ((1)", 9);
        fault("wear ()", 6);
        fault("wear (1))", 8);
        fault("wear 1)", 6);
        fault("wear )", 5);
        fault("wear (1)(2)", 8);
        fault("wear (1)2", 8);
        fault("wear 2(1)", 6);
        fault("wear 1 wear 2", 7);
        fault("wear wear 2", 5);
        fault("wear 1,2", 6);
        fault("wear 1;", 6);
        fault("wear x", 5);
        fault("wear R", 5);
        fault("wear &1", 5);
        fault("wear 1||1", 7);
        sound("wear 2");
        sound("fee(2)");
        sound("fine!2");
        sound("  wear   2  ");
        sound("wear 9999");
        sound("wear 0000");
        sound("wear(1<2)<(3=4)");
        sound("wear 1<2&3<4|5<6&7<8");
        sound("wear r+s*t");
        sound("fee e/h");
        sound("fine r-o");
        sound("wear ! ! ( r )");
        sound("wear !r<!s");
        sound("wear 1 < ( 2 < 3 )");
    }

    private static void promise32Nesting() {
        sound("wear ((((((((1))))))))");
        fault("wear (((((((((1)))))))))", 13);
        sound("wear ((((((((1))))))))+((((((((1))))))))");
        fault("wear 1+(((((((((", 15);
        sound("wear !!!!!!!!1");
        fault("wear !!!!!!!!!1", 13);
        sound("wear !!!!!!!!1+!!!!!!!!1");
        sound("wear !!!!!!!!((((((((1))))))))");
        fault("wear !!!!!!!!(!1)", 14);
        sound("wear !!!!!!!(!1)");
        sound("wear !!!!!!!!(1)+!1");
        fault("wear !!!!!!!!(1+(2*!3))", 19);
        sound("wear !(!(!(!(!(!(!(!(1))))))))");
        fault("wear !(!(!(!(!(!(!(!(!1))))))))", 21);
        fault("wear !(!(!(!(!(!(!(!((1)))))))))", 21);
        sound("wear (((((((1)))))))+(1+(1))");
        fault("wear ((((((((1)+(1))))))))*(", 28);
    }

    private static void promise32Bytes() {
        for (int at = 0; at < 256; at++) {
            RegretLocks x = new RegretLocks();
            String text = "fee 1" + (char) at + "2";
            boolean joins = "+-*/<=>|&".indexOf(at) >= 0;
            boolean digit = at >= '0' && at <= '9';
            int place = at == ' ' ? 6 : 5;
            Due.due("byte " + at, joins || digit ? 0 : -100 - place, Due.text(x, text));
            Due.due("byte " + at + " ahead", at == ' ' ? 0 : -100, Due.text(new RegretLocks(), (char) at + "fee 1"));
        }
    }

    private static void value(String text, int due) {
        RegretLocks x = new RegretLocks();
        x.rule(0, 0);
        x.rule(1, 0);
        x.one(0, 0, 0, 0, 0);
        x.lock(0, 0, 0, 0);
        x.days(7);
        x.one(0, 1, 0, 0, 0);
        x.days(3);
        // e is 10, h is 3
        Due.due("a text", 0, Due.text(x, "fee " + text));
        Due.due("fee " + text, due, x.fee());
    }

    private static void promise32Values() {
        value("e", 10);
        value("h", 3);
        value("2+3*4", 14);
        value("(2+3)*4", 20);
        value("e-h-1", 6);
        value("e-(h-1)", 8);
        value("100/e/h", 3);
        value("100/(e/h)", 33);
        value("7/2*2", 6);
        value("(0-7)/2", -3);
        value("7/(0-2)", -3);
        value("5/0", 0);
        value("0/0", 0);
        value("5/(e-10)", 0);
        value("1<2", 1);
        value("2<2", 0);
        value("2=2", 1);
        value("2=3", 0);
        value("3>2", 1);
        value("2>2", 0);
        value("e<h+8", 1);
        value("e>h*3+1", 0);
        value("2&4", 1);
        value("2&0", 0);
        value("0|0", 0);
        value("0|9", 1);
        value("9|0", 1);
        value("1|0&0", 1);
        value("(1|0)&0", 0);
        value("0&1|1", 1);
        value("0-1&1", 1);
        value("1+1&0", 0);
        value("1&2=2", 1);
        value("(1&2)=2", 0);
        value("!0", 1);
        value("!7", 0);
        value("!!7", 1);
        value("!0+1", 2);
        value("!(0+1)", 0);
        value("2*!0", 2);
        value("!e=0", 1);
        value("3-!0-!0", 1);
        value("!(1<2)|!(2<1)", 1);
        value("9999*9999*9999", 9999 * 9999 * 9999);
        value("0-9999*9999*9999*9999", -(9999 * 9999 * 9999 * 9999));
        value("(0-32*8192*8192)/(0-1)", Integer.MIN_VALUE);
        value("0007", 7);
        value("4+(0|7)", 5);
        value("4+(0|7&0)*3", 4);
        value("4*(1+(0|7))", 8);
        value("((((((((e))))))))", 10);
        value("!!!!!!!!e", 1);
        value("1-2*3+4/2-(5-6)", -2);
        value("1<2&2<3|9/0", 1);
    }

    /** What one reading left open is not open in the next one. */
    private static void promise32Again() {
        RegretLocks x = new RegretLocks();
        for (int i = 0; i < 12; i++) {
            Due.due("a fault", -112, Due.text(x, "fee !(!(1+!("));
            Due.due("a fault", -105, Due.text(x, "fee 1)"));
            Due.due("a text", i, Due.text(x, "fee !!!!!!!!((((((((" + i + ")))))))) + " + i));
            Due.due("its value", (i == 0 ? 0 : 1) + i, x.fee());
            Due.due("its numbers", 2, x.textTold(i, 1));
        }
    }

    private static void promise32Full() {
        RegretLocks x = new RegretLocks();
        for (int i = 0; i < 14; i++) {
            Due.due("text " + i, i, Due.text(x, "fee " + i));
        }
        Due.due("a fifteenth", FULL, Due.text(x, "fee 99"));
        Due.due("used up", 0, x.count(7));
        Due.due("a fault stands ahead of FULL", -105, Due.text(x, "fee 9a"));
        Due.due("fourteen stay", 14, x.count(5));
        Due.due("the fourteenth counts", 13, x.fee());
    }

    private static void promise33TextTold() {
        RegretLocks x = new RegretLocks();
        Due.due("no text", BAD, x.textTold(0, 0));
        Due.text(x, "fine 7");
        Due.text(x, "wear r+s*(t-!1)");
        Due.text(x, "fee e|h&e<0012-4");
        int[][] due = {{2, 1}, {0, 4}, {1, 5}};
        for (int i = 0; i < 3; i++) {
            Due.due("key of " + i, due[i][0], x.textTold(i, 0));
            Due.due("numbers and names of " + i, due[i][1], x.textTold(i, 1));
        }
        Due.due("no such text", BAD, x.textTold(3, 0));
        Due.due("no such text", BAD, x.textTold(-1, 0));
        Due.due("no such text", BAD, x.textTold(14, 1));
        Due.due("no such text", BAD, x.textTold(Integer.MAX_VALUE, Integer.MIN_VALUE));
        Due.due("no such what", BAD, x.textTold(0, 2));
        Due.due("no such what", BAD, x.textTold(0, -1));
    }

    private static void promise34Why() {
        RegretLocks x = new RegretLocks();
        for (int key = 0; key < 3; key++) {
            Due.due("none for " + key, NONE, x.why(key));
        }
        Due.text(x, "fine 7");
        Due.text(x, "fee 7");
        Due.text(x, "fine 8");
        Due.text(x, "fine 8+");
        Due.due("wear", NONE, x.why(0));
        Due.due("fee", 1, x.why(1));
        Due.due("fine", 2, x.why(2));
        Due.text(x, "wear 1");
        Due.due("wear", 3, x.why(0));
        Due.due("no such key", BAD, x.why(3));
        Due.due("no such key", BAD, x.why(-1));
        Due.due("no such key", BAD, x.why(Integer.MAX_VALUE));
        Due.due("no such key", BAD, x.why(Integer.MIN_VALUE));
    }
}
