/** Promises 9 and 10: the tape, and the law with its faults and its reckoning. */
public final class LawTest {
    private static final Due due = new Due();

    public static void main(String[] args) {
        tape();
        whichBytes();
        faults();
        digits();
        clauses();
        openOnes();
        endsAndSigns();
        reckoning();
        bounds();
        letters();
        refused();
        asMuchAsMatters();
        theTextBeforeStays();
        fourteenAsked();
        nothingOldIsLeft();
        due.end();
    }

    private static void tape() {
        DepositJudge x = new DepositJudge();
        for (int row = 1; row <= 11; row++) {
            due.is("9 feed", x.feed(row, 2, 3, 4, 5), 20 * row);
        }
        due.is("9 more than 220", x.feed(1, 2, 3, 4, 5), -1);
        due.is("9 it stays", x.count(3), 220);
        due.is("10 more than 200", x.law(201), -1);
        due.is("10 the tape stays", x.count(3), 220);
        due.is("10 a fault", x.law(200), -1000);
        due.is("10 empty then", x.count(3), 0);
        due.is("9 highest byte first", x.feed('b' << 24 | '(' << 16 | 'k' << 8 | '=', '1' << 24 | ')' << 16, 0, 0, 0), 20);
        due.is("9 highest byte first", x.law(6), 1);
        due.is("9 bytes beyond 127", x.feed(0x80FF9090, -1, -1, -1, -1), 20);
        due.is("9 bytes beyond 127", x.law(20), -1000);
    }

    private static void whichBytes() {
        DepositJudge x = new DepositJudge();
        due.is("10 nothing there", x.law(1), -1);
        Due.feed(x, "b(k=1)");
        due.is("10 n 0", x.law(0), -1);
        due.is("10 n below", x.law(-1), -1);
        due.is("10 least n", x.law(Integer.MIN_VALUE), -1);
        due.is("10 it has not so many", x.law(21), -1);
        due.is("10 the tape stays", x.count(3), 20);
        due.is("10 the first n", x.law(6), 1);
        due.is("10 empty then", x.count(3), 0);
        String text = "b(k=1+1+1+1+1+1+1+1+1+1+1+1+1+1+1+1+1+1+1+1+1+1+1+1+1+1+1+1+1+1+1+1+1+1+1+1+1+1+1+1+1+1+1+1+1+1+1+1+1+1+1"
                + "+1+1+1+1+1+1+1+1+1+1+1+1+1+1+1+1+1+1+1+1+1+1+1+1+1+1+1+1+1+1+1+1+1+1+1+1+1+1+1+1+1+1+1+1+1+1+1)";
        due.is("10 200 bytes", text.length(), 200);
        due.is("10 200 bytes", Due.law(x, text), 1);
    }

    private static void fault(String text, int want) {
        DepositJudge x = new DepositJudge();
        due.is("10 " + text, Due.law(x, text), want);
        due.is("10 clauses of " + text, x.count(2), Math.max(0, want));
        due.is("10 tape after " + text, x.count(3), 0);
    }

    private static void faults() {
        fault("b(k=0)", 1);
        fault("f1(k=0)", 1);
        fault("p1(k=0);d1(k=0);t1(k=0);b(k=0);f1(k=0)", 5);
        fault("x(k=0)", -1000);
        fault("k(k=0)", -1000);
        fault("F1(k=0)", -1000);
        fault(" b(k=0)", -1000);
        fault("b (k=0)", -1001);
        fault("b1(k=0)", -1001);
        fault("f(k=0)", -1001);
        fault("f1", -1002);
        fault("f1+", -1003);
        fault("f1+(k=0)", -1003);
        fault("f1(k=0", -1006);
        fault("f1(k=0]", -1006);
        fault("f[1(k=0)", -1003);
        fault("f[1)(k=0)", -1003);
        fault("f1](k=0)", -1002);
        fault("b()", -1002);
        fault("b(k)", -1003);
        fault("b(k=)", -1004);
        fault("b(k=0=0)", -1005);
        fault("b(k<>0)", -1004);
        fault("b(k=0|)", -1006);
        fault("b(k=0||k=1)", -1006);
        fault("b(k=0&)", -1006);
        fault("b(|k=0)", -1002);
        fault("b(!)", -1003);
        fault("b(k!=0)", -1003);
        fault("b((k=0)", -1007);
        fault("b((k=0)=0)", -1007);
        fault("b((k)=0)", -1004);
        fault("b(k=0))", -1006);
        fault("b(k=0);", -1007);
        fault("b(k=0);;", -1007);
        fault("b(k=0)b(k=0)", -1006);
        fault("b(-1=0)", -1002);
        fault("b(k=0-)", -1006);
        fault("b(k*/r=0)", -1004);
        fault("b(kr=0)", -1003);
        fault("b(k1=0)", -1003);
        fault("b(1k=0)", -1003);
        fault("b([k]1=0)", -1005);
        fault("b(e=0)", -1002);
        fault("b(f=0)", -1002);
        fault("b(k=[0)", -1006);
        fault("b([k=0])", -1004);
        fault("b([k=0]=1)", -1004);
        fault("b([(k)]=1)", -1003);
        fault("b([!k]=1)", -1003);
    }

    private static void digits() {
        fault("f12345(k=0)", 1);
        fault("f00000(k=0)", 1);
        fault("f123456(k=0)", -2006);
        fault("f1234567(k=0)", -2006);
        fault("f000000(k=0)", -2006);
        fault("b(k=123456", -2009);
        fault("b(k=12345", -1009);
        fault("b(12345+123456=0)", -2013);
    }

    private static String many(int clauses) {
        StringBuilder text = new StringBuilder("b(k=0)");
        for (int k = 1; k < clauses; k++) {
            text.append(";b(k=").append(k % 10).append(')');
        }
        return text.toString();
    }

    private static void clauses() {
        fault(many(14), 14);
        fault(many(15), -4098);
        fault(many(14) + ";", -1098);
        fault(many(14) + ";f", -4098);
        fault(many(14) + ";x", -1098);
        fault(many(14) + ";1", -1098);
        fault(many(14) + "x", -1097);
        fault(many(13) + ";x", -1091);
    }

    private static void openOnes() {
        fault("b((((((k=0))))))", 1);
        fault("b(((((((k=0)))))))", -5007);
        fault("b(!!!!!k=0)", 1);
        fault("b(!!!!!!k=0)", -5007);
        fault("b([[[[[k]]]]]=0)", 1);
        fault("b([[[[[[k]]]]]]=0)", -5007);
        fault("b(k=[[[[[k]]]]])", 1);
        fault("b(k=[[[[[[k]]]]]])", -5009);
        fault("b(!(![(k)]=0))", -1006);
        fault("b(!(!([k]=0)))", 1);
        fault("b(!(!([[k]]=0)))", -5007);
        fault("b(!(!(k=[k]&k=[r])))", 1);
        fault("b(!(!(k=[k]&!k=r)))", 1);
        fault("b(!(!(k=[k]&!k=[r])))", -5015);
        fault("b(!!!!!k=0&k=[0])", 1);
        fault("b(!!!!!k=[0])", -5009);
        fault("b(!!!!k=[0])", 1);
        fault("b(!!!!k=[0]&!!!!k=[0])", 1);
        fault("b((k=0)&(k=0)&(k=0)&(k=0)&(k=0)&(k=0)&(k=0))", 1);
        fault("f[[[[[[1]]]]]](k=0)", 1);
        fault("f[[[[[[[1]]]]]]](k=0)", -5007);
        fault("f[[[[[[1]]]]]]((((((k=0))))))", 1);
        fault("f[[[[[[!", -1007);
        fault("b((((((!k=0))))))", -5007);
        fault("b((((((*", -1007);
    }

    private static void endsAndSigns() {
        fault("b", -1001);
        fault("b(", -1002);
        fault("b(k", -1003);
        fault("b(k=", -1004);
        fault("b(k=0", -1005);
        fault("b(!", -1003);
        fault("b([", -1003);
        fault("f", -1001);
        fault("f[", -1002);
        fault("f[1", -1003);
        fault("b(k=0)\n", -1006);
        fault("b(k=0)" + (char) 0, -1006);
        fault("b(k=0)" + (char) 187, -1006);
        fault("b(k=" + (char) 176 + ")", -1004);
    }

    /** f of a thing of kind 3 in room 7, 6 at first, 2 at last, 35 months old when aged, 30 between. */
    private static int wear(String text) {
        DepositJudge x = new DepositJudge();
        x.home(2, 3, 100, 10, 40, true);
        x.first(0, 7, 3, 6, 5);
        x.last(0, 7, 3, 2);
        due.yes("10 " + text + " is a law", Due.law(x, text) > 0);
        return x.thing(0, 0, 2);
    }

    private static void wear(String text, int want) {
        due.is("10 f by " + text, wear(text), want);
    }

    private static void holds(String test, boolean want) {
        wear("f7(" + test + ")", want ? 7 : 0);
    }

    private static void reckoning() {
        wear("f1+2*3(1=1)", 7);
        wear("f[1+2]*3(1=1)", 9);
        wear("f9-3-2(1=1)", 4);
        wear("f9-[3-2](1=1)", 8);
        wear("f40/5/2(1=1)", 4);
        wear("f40/[5/2](1=1)", 9);
        wear("f17%5*3(1=1)", 6);
        wear("f2*7/5(1=1)", 2);
        wear("f7/5*2(1=1)", 2);
        wear("f8-7/2(1=1)", 5);
        holds("0-7/2=0-3", true);
        holds("[0-7]/2=0-3", true);
        holds("[0-7]%4=0-3", true);
        holds("99999*99999=14098*[1000*100]+65409", true);
        holds("99999*99999=99999*99999", true);
        holds("65536*32768<0", true);
        holds("65536*65536=0", true);
        holds("[65536*32768]/[0-1]=65536*32768", true);
        holds("[65536*32768]%[0-1]=0", true);
        holds("65536*32768-1>0", true);
        holds("1<2", true);
        holds("2<2", false);
        holds("2>2", false);
        holds("3>2", true);
        holds("2=3", false);
        holds("1=2|1=1", true);
        holds("1=2&1=1", false);
        holds("1=1|1=1&1=2", true);
        holds("1=2&1=1|1=1", true);
        holds("(1=1|1=1)&1=2", false);
        holds("!1=2", true);
        holds("!1=1|1=1", true);
        holds("!(1=1|1=1)", false);
        holds("!!1=1", true);
        holds("!1=2&1=2", false);
        holds("1=2|1=2|1=1", true);
        holds("1=1&1=1&1=2", false);
        holds("1=1&1=2|1=2&1=1|1=1&1=1", true);
        wear("f1(1=2);f2(1=1);f3(1=1)", 2);
        wear("p5(1=1);f4(1=1)", 4);
        wear("p5(1=1)", 0);
    }

    private static void bounds() {
        wear("f9(1=1)", 9);
        wear("f10(1=1)", 9);
        wear("f99999(1=1)", 9);
        wear("f0-1(1=1)", 0);
        wear("f65536*32768(1=1)", 0);
    }

    private static void letters() {
        holds("k=3&r=7&s=6&o=2&a=35&m=30&n=3&g=2", true);
        holds("c=0&v=0", true);
        DepositJudge x = new DepositJudge();
        x.home(1, 2, 100, 10, 40, false);
        x.first(0, 7, 3, 6, 5);
        due.is("10 o of a gone one", Due.law(x, "f5(o=0)"), 1);
        due.is("10 o of a gone one", x.thing(0, 0, 2), 5);
        x.claim(0, 0, 4, 7, 0);
        due.is("10 in f c and v are 0", Due.law(x, "f5(c=4);f6(v=7);f7(c=0&v=0)"), 3);
        due.is("10 in f c and v are 0", x.thing(0, 0, 2), 7);
        due.is("10 in t all but m n g", Due.law(x, "t5(k+r+s+o+a+c+v>0);t[m+n+g]/11(m=30&n=2&g=1)"), 2);
        due.is("10 in t all but m n g", x.judged(0, 0, 2), 300);
        Due.law(x, "f1(o=1);d0(1=1);t3(k+r+s+o+a+c+v=0&m=30)");
        due.is("10 letters of a claim are asked", x.award(0, 3, 1), 1);
        due.is("10 nothing of it is left in t", x.judged(0, 3, 2), 300);
    }

    private static void refused() {
        wear("f1/0(1=1)", 0);
        wear("f5+1/0(1=1)", 0);
        wear("f5+[1%0](1=1)", 0);
        wear("f1/0(1=1);f3(1=1)", 0);
        holds("1/0=0", false);
        holds("0=1%0", false);
        holds("!1/0=0", false);
        holds("!(1/0=1)", false);
        holds("!!1/0=0", false);
        holds("1/0=1|1=1", false);
        holds("(1/0=1)|1=1", false);
        holds("1=2|1/0=1|1=1", false);
        holds("0/0=0", false);
        holds("0*[1/0]=0", false);
        wear("f1(1/0=0);f2(1=1)", 2);
    }

    private static void asMuchAsMatters() {
        holds("1=1|1/0=0", true);
        holds("1=2&1/0=0", false);
        holds("!(1=2&1/0=0)", true);
        holds("1=2&1/0=0|1=1", true);
        holds("1=1&1=1|1/0=0", true);
        holds("1=1&(1=1|1/0=0)", true);
        holds("1=1|1=2|1/0=0", true);
        holds("1=2&1=1&1/0=0|2=2", true);
        holds("(1=1|1/0=0)&1/0=0", false);
        holds("(1=2&1/0=0)|1=1&2=2", true);
    }

    private static void fourteenAsked() {
        wear("f1(k=0);f1(k=1);f1(k=2);f1(k=4);f1(k=5);f1(k=6);f1(k=7);f1(r=0);f1(r=1);f1(r=2);f1(r=3);f1(r=4);f1(r=5);f8(r=7)", 8);
        wear("f1(k=0);f1(k=1);f1(k=2);f1(k=4);f1(k=5);f1(k=6);f1(k=7);f1(r=0);f1(r=1);f1(r=2);f1(r=3);f1(r=4);f1(r=5);f8(r=6)", 0);
        DepositJudge x = new DepositJudge();
        x.price(0, 0, 100);
        x.home(0, 1, 100, 0, 1, false);
        x.first(0, 0, 0, 5, 0);
        x.claim(0, 0, 0, 0, 0);
        x.answer(0, 0, false);
        due.is("10 fourteen", Due.law(x, many(14).replace('k', 's')), 14);
        due.is("10 a b among them", x.award(0, 0, 1), 5);
        due.is("10 fourteen", Due.law(x, many(14).replace('k', 'a')), 14);
        due.is("10 a b among them", x.award(0, 0, 1), 5);
        due.is("10 fourteen", Due.law(x, many(14).replace("k", "9+c")), 14);
        due.is("10 the tenth alone holds", x.award(0, 0, 1), 5);
        due.is("10 fourteen", Due.law(x, many(14).replace("k", "99")), 14);
        due.is("10 no b holds", x.award(0, 0, 1), 8);
    }

    private static void nothingOldIsLeft() {
        DepositJudge x = new DepositJudge();
        x.home(0, 1, 100, 0, 1, true);
        x.first(0, 0, 0, 5, 0);
        for (int turn = 0; turn < 3; turn++) {
            due.is("10 two", Due.law(x, "f1(k=1);f2(k=0)"), 2);
            due.is("10 the second", x.thing(0, 0, 2), 2);
            due.is("10 a fault behind three", Due.law(x, "f5(k=0);f6(k=0);f7(k=0)="), -1023);
            due.is("10 the second", x.thing(0, 0, 2), 2);
            due.is("10 one", Due.law(x, "f3(k=1)"), 1);
            due.is("10 none holds", x.thing(0, 0, 2), 0);
        }
    }

    private static void theTextBeforeStays() {
        DepositJudge x = new DepositJudge();
        x.home(0, 1, 100, 0, 1, true);
        x.first(0, 0, 0, 5, 0);
        Due.law(x, "f3(k=0);b(k=0)");
        due.is("10 f", x.thing(0, 0, 2), 3);
        due.is("10 a fault", Due.law(x, "f4(k=0);f5(k=0);x"), -1016);
        due.is("10 the text before stays", x.thing(0, 0, 2), 3);
        due.is("10 its clauses", x.count(2), 2);
        due.is("10 NONE", x.law(5), -1);
        due.is("10 the text before stays", x.thing(0, 0, 2), 3);
        due.is("10 in place of it", Due.law(x, "f4(k=0)"), 1);
        due.is("10 in place of it", x.thing(0, 0, 2), 4);
        due.is("10 its clauses", x.count(2), 1);
        due.is("10 another fault", Due.law(x, "f"), -1001);
        due.is("10 that one stays", x.thing(0, 0, 2), 4);
        due.is("10 without f", Due.law(x, "b(k=0)"), 1);
        due.is("10 nothing of the one before", x.thing(0, 0, 2), 0);
    }
}
