/** The sentences of the terms about the law: its text, what it asks and reckons, its faults. */
final class LawSentences {
    private static final String LETTERS = "krsoamngcv";
    private static final String DIGITS = "0123456789";
    private static final String FACTOR = DIGITS + LETTERS + "[";
    private static final String SIGNS = "+-*/%";

    private final Sentences doc;

    LawSentences(Sentences doc) {
        this.doc = doc;
    }

    void run() {
        text();
        clauses();
        tests();
        amounts();
        faults();
    }

    private void text() {
        doc.term("THE LAW: a TEXT of at most 200 bytes,", this::atMost200Bytes);
        doc.term("no blanks", this::noBlanks);
        doc.term("(none at first):", this::noneAtFirst);
        doc.term("CLAUSES (14 at most)", this::fourteenClauses);
        doc.term("with a ; (59) between two:", this::between);
        doc.term("a letter, E, and (C)", this::letterAmountTest);
        doc.term("(b: no E):", this::noAmountInB);
    }

    private void clauses() {
        doc.term("f by how many STATES a THING may be lower by fair wear (0 to 9),", this::fairWear);
        doc.term("p how many hundredths of what is lost are awarded (0 to 100;", this::hundredths);
        doc.term("none: 100),", this::noHundredths);
        doc.term("d after how many days without an ANSWER a CLAIM stands as it is (0 to 999;", this::silence);
        doc.term("none: 999),", this::noSilence);
        doc.term("t how many times the DEPOSIT is the penalty (0 to 9):", this::penalty);
        doc.term("the E of the first CLAUSE whose C holds", this::firstThatHolds);
        doc.term("(beyond its bounds the bound;", this::bounds);
        doc.term("none, but where told: 0);", this::noneIs0);
        doc.term("b: the TENANTS must prove, if some C holds, else the owner must.", this::whoMustProve);
    }

    private void tests() {
        doc.term("C: PARTS with a | between two, one of which must hold;", this::parts);
        doc.term("a PART: PIECES with an & between two, all of which must;", this::pieces);
        doc.term("a PIECE: !PIECE,", this::not);
        doc.term("(C), or", this::nested);
        doc.term("E, one of < > =, and E.", this::comparisons);
        doc.term("Of a C as much is asked, from the left, as matters.", this::asMuchAsMatters);
    }

    private void amounts() {
        doc.term("E: TERMS with + or - between two;", this::sums);
        doc.term("a TERM: FACTORS with one of * / % between two;", this::products);
        doc.term("from the left on;", this::fromTheLeft);
        doc.term("a FACTOR: [E],", this::brackets);
        doc.term("a number of one to five digits,", this::numbers);
        doc.term("or a letter:", this::letters);
        doc.term("k KIND, r ROOM, s STATE at first, o STATE at last", this::lettersOfThing);
        doc.term("(gone: 0),", this::gone);
        doc.term("a how old when AGED, m months between, n TENANTS, g REGION,", this::lettersOfHome);
        doc.term("c CAUSE, v EVIDENCE", this::lettersOfClaim);
        doc.term("(in f c v are 0;", this::lettersInF);
        doc.term("in t all but m n g).", this::lettersInT);
        doc.term("All is reckoned with 32 bits, as the machine does;", this::bits);
        doc.term("what is divided by 0 is REFUSED: then a C does not hold,", this::refusedTest);
        doc.term("an E is 0.", this::refusedAmount);
    }

    private void faults() {
        doc.term("FAULTS, the first from the left:", this::firstFault);
        doc.term("1 what can't stand there", this::unfit);
        doc.term("(the end, too);", this::unfitEnd);
        doc.term("2 a sixth digit, at it;", this::sixthDigit);
        doc.term("4 a 15th CLAUSE, at its letter", this::fifteenth);
        doc.term("(if that can stand there);", this::fifteenthThatCantStand);
        doc.term("5 a seventh of ( [ ! that are open in one another, at it", this::seventhOpen);
        doc.term("(the ( of the CLAUSE counts;", this::clauseCounts);
        doc.term("a ! is open till its PIECE ends;", this::openTillPieceEnds);
        doc.term("the E of a CLAUSE stands ahead of it).", this::amountStandsAhead);
    }

    private void law(String text, int want) {
        doc.is("law " + text, Due.law(new DepositJudge(), text), want);
    }

    private void wear(String law, int want) {
        doc.is("f by " + law, Cases.wear(law), want);
    }

    private void holds(String test, boolean want) {
        doc.is(test + " holds", Cases.holds(test) ? 1 : 0, want ? 1 : 0);
    }

    private static String repeated(String text, int times) {
        return text.repeat(times);
    }

    private static String many(int clauses) {
        return "b(k=0)" + repeated(";b(k=0)", clauses - 1);
    }

    private void atMost200Bytes() {
        String text = "b(k=1" + repeated("+1", 97) + ")";
        doc.is("its length", text.length(), 200);
        law(text, 1);
        DepositJudge x = new DepositJudge();
        Due.feed(x, text + ";b(k=0)");
        doc.is("201 of them", x.law(201), -1);
        doc.is("no law by them", x.count(2), 0);
        doc.is("200 of them", x.law(200), 1);
    }

    private void noBlanks() {
        String text = "f1+k(r=0&!(s<2|[o]=3));b(k=0)";
        law(text, 2);
        for (int at = 0; at <= text.length(); at++) {
            for (char blank : new char[] {' ', '\t', '\n', '\r', 0, 160}) {
                law(text.substring(0, at) + blank + text.substring(at), -1000 - at);
            }
        }
    }

    private void noneAtFirst() {
        DepositJudge x = Cases.lettered();
        doc.is("clauses", x.count(2), 0);
        doc.is("fair wear", x.thing(0, 0, 2), 0);
        doc.is("penalty", x.judged(0, 0, 2), 0);
        x.claim(0, 0, 0, 7, 0);
        x.answer(0, 0, false);
        doc.is("the owner must prove", x.award(0, 0, 1), 7);
        doc.is("all hundredths", x.award(0, 0, 0), 3500 * 4 / 6);
    }

    private void fourteenClauses() {
        for (int clauses = 1; clauses <= 14; clauses++) {
            law(many(clauses), clauses);
        }
        law(many(15), -4098);
        wear(repeated("f1(k=0);", 13) + "f8(k=3)", 8);
    }

    private void between() {
        for (int sign = 0; sign < 256; sign++) {
            law("b(k=0)" + (char) sign + "b(k=0)", sign == 59 ? 2 : -1006);
        }
        law("b(k=0);", -1007);
        law(";b(k=0)", -1000);
        law("b(k=0);;b(k=0)", -1007);
    }

    private void letterAmountTest() {
        for (char letter : "fpdt".toCharArray()) {
            law(letter + "1(k=0)", 1);
            law(letter + "(k=0)", -1001);
            law(letter + "1", -1002);
            law(letter + "1()", -1003);
            law(letter + "1k=0", -1002);
            law(letter + "1(k=0)(k=0)", -1007);
        }
        law("1(k=0)", -1000);
        law("(k=0)", -1000);
    }

    private void noAmountInB() {
        law("b(k=0)", 1);
        law("b1(k=0)", -1001);
        law("bk(k=0)", -1001);
        law("b[1](k=0)", -1001);
        law("b", -1001);
    }

    private void fairWear() {
        for (int f = 0; f <= 9; f++) {
            wear("f" + f + "(1=1)", f);
        }
        DepositJudge x = Cases.lettered();
        int[] lost = {4, 3, 2, 1, 0, 0, 0, 0, 0, 0};
        for (int f = 0; f <= 9; f++) {
            Due.law(x, "f" + f + "(1=1)");
            doc.is("lost with fair wear " + f, x.thing(0, 0, 4), 3500 * lost[f] / 6);
        }
    }

    /** What is awarded of 1000 that are lost. */
    private int awarded(String law) {
        DepositJudge x = Cases.claimed(4, 7);
        x.answer(0, 10, false);
        Due.law(x, law);
        return x.award(0, 10, 0);
    }

    private void hundredths() {
        for (int p = 0; p <= 100; p++) {
            doc.is("p " + p, awarded("p" + p + "(1=1)"), 10 * p);
        }
    }

    private void noHundredths() {
        doc.is("no clause", awarded("b(1=2)"), 1000);
        doc.is("none that holds", awarded("p5(1=2);p6(c=3)"), 1000);
        doc.is("no law", awarded("x"), 1000);
    }

    /** The first day on which the claim of day 10 stands by silence. */
    private int stands(String law) {
        DepositJudge x = Cases.claimed(4, 7);
        Due.law(x, law);
        for (int day = 10; day < 1300; day++) {
            if (x.award(0, day, 1) == 3) {
                return day;
            }
        }
        return -1;
    }

    private void silence() {
        for (int d : new int[] {0, 1, 14, 998, 999}) {
            doc.is("d " + d, stands("d" + d + "(1=1)"), 10 + d + 1);
        }
    }

    private void noSilence() {
        doc.is("no clause", stands("b(1=2)"), 1010);
        doc.is("none that holds", stands("d5(1=2);d6(c=3)"), 1010);
        doc.is("no law", stands("x"), 1010);
    }

    private static int penaltyBy(String law) {
        DepositJudge x = Cases.lettered();
        Due.law(x, law);
        return x.judged(0, 0, 2);
    }

    private void penalty() {
        for (int t = 0; t <= 9; t++) {
            doc.is("t " + t, penaltyBy("t" + t + "(1=1)"), 100 * t);
        }
    }

    private void firstThatHolds() {
        wear("f1(1=1);f2(1=1);f3(1=1)", 1);
        wear("f1(1=2);f2(1=1);f3(1=1)", 2);
        wear("f1(1=2);f2(1=2);f3(1=1)", 3);
        wear("f1(1=2);p8(1=1);f0(1=1);f3(1=1)", 0);
        wear("t5(1=1);d6(1=1);p7(1=1);b(1=1);f4(1=1)", 4);
        doc.is("p", awarded("f1(1=2);d1(1=1);t2(1=1);p30(1=1);p40(1=1)"), 300);
        doc.is("d", stands("f1(1=2);p1(1=1);t2(1=1);d30(1=1);d40(1=1)"), 41);
        doc.is("t", penaltyBy("f1(1=2);p1(1=1);d2(1=1);t3(1=1);t4(1=1)"), 300);
    }

    private void bounds() {
        wear("f10(1=1)", 9);
        wear("f99999(1=1)", 9);
        wear("f0-1(1=1)", 0);
        wear("f0-99999(1=1)", 0);
        doc.is("p above", awarded("p101(1=1)"), 1000);
        doc.is("p far above", awarded("p99999(1=1)"), 1000);
        doc.is("p below", awarded("p0-1(1=1)"), 0);
        doc.is("d above", stands("d1000(1=1)"), 1010);
        doc.is("d far above", stands("d99999(1=1)"), 1010);
        doc.is("d below", stands("d0-1(1=1)"), 11);
        doc.is("t above", penaltyBy("t10(1=1)"), 900);
        doc.is("t far above", penaltyBy("t99999(1=1)"), 900);
        doc.is("t below", penaltyBy("t0-1(1=1)"), 0);
    }

    private void noneIs0() {
        wear("f5(1=2)", 0);
        wear("b(1=1)", 0);
        wear(repeated("f1(k=0);", 13) + "f8(k=1)", 0);
        doc.is("t, none that holds", penaltyBy("t5(1=2)"), 0);
        doc.is("t, no clause", penaltyBy("f5(1=1)"), 0);
    }

    private static int reason(String law) {
        DepositJudge x = Cases.claimed(4, 7);
        x.answer(0, 10, false);
        Due.law(x, law);
        return x.award(0, 10, 1);
    }

    private void whoMustProve() {
        doc.is("some holds", reason("b(1=1)"), 5);
        doc.is("the last holds", reason("b(1=2);b(c=3);b(c=4)"), 5);
        doc.is("the first holds", reason("b(c=4);b(c=3);b(1=2)"), 5);
        doc.is("none holds", reason("b(1=2);b(c=3)"), 7);
        doc.is("the last of fourteen holds", reason(repeated("b(c=3);", 13) + "b(c=4)"), 5);
        doc.is("none of fourteen holds", reason(repeated("b(c=3);", 13) + "b(c=5)"), 7);
        doc.is("no clause", reason("p50(1=1)"), 7);
        doc.is("one refused, one holds", reason("b(1/0=0);b(1=1)"), 5);
        doc.is("one refused", reason("b(1/0=0)"), 7);
    }

    private static String piece(boolean holds) {
        return holds ? "1=1" : "1=2";
    }

    private void parts() {
        for (int bits = 0; bits < 16; bits++) {
            boolean a = (bits & 1) != 0;
            boolean b = (bits & 2) != 0;
            boolean c = (bits & 4) != 0;
            boolean d = (bits & 8) != 0;
            holds(piece(a) + "|" + piece(b), a | b);
            holds(piece(a) + "|" + piece(b) + "|" + piece(c) + "|" + piece(d), a | b | c | d);
            holds(piece(a) + "|" + piece(b) + "&" + piece(c) + "|" + piece(d), a | b & c | d);
            holds(piece(a) + "&" + piece(b) + "|" + piece(c) + "&" + piece(d), a & b | c & d);
        }
        law("b(k=0|)", -1006);
        law("b(|k=0)", -1002);
        law("b(k=0||k=0)", -1006);
    }

    private void pieces() {
        for (int bits = 0; bits < 8; bits++) {
            boolean a = (bits & 1) != 0;
            boolean b = (bits & 2) != 0;
            boolean c = (bits & 4) != 0;
            holds(piece(a) + "&" + piece(b), a & b);
            holds(piece(a) + "&" + piece(b) + "&" + piece(c), a & b & c);
        }
        law("b(k=0&)", -1006);
        law("b(&k=0)", -1002);
        law("b(k=0&&k=0)", -1006);
    }

    private void not() {
        holds("!1=1", false);
        holds("!1=2", true);
        holds("!!1=1", true);
        holds("!!!1=1", false);
        holds("!!!!!1=2", true);
        holds("!1=1|1=1", true);
        holds("!1=2&1=2", false);
        holds("!(1=2&1=2)", true);
        law("b(k!=0)", -1003);
        law("b(!)", -1003);
        law("f!1(k=0)", -1001);
        law("b(k=!0)", -1004);
    }

    private void nested() {
        holds("(1=1)", true);
        holds("(1=2)", false);
        holds("(1=1|1=1)&1=2", false);
        holds("1=2&(1=1|1=1)", false);
        holds("((1=2|(1=1&(1=1))))", true);
        law("b((k=0)", -1007);
        law("b((k=0)))", -1008);
        law("b((k)=0)", -1004);
        law("b((k=0)=0)", -1007);
        law("b(())", -1003);
    }

    private void comparisons() {
        for (int a = 0; a < 4; a++) {
            for (int b = 0; b < 4; b++) {
                holds(a + "<" + b, a < b);
                holds(a + ">" + b, a > b);
                holds(a + "=" + b, a == b);
                holds("0-" + a + "<" + b + "-2", -a < b - 2);
            }
        }
        law("b(k<>0)", -1004);
        law("b(k<=0)", -1004);
        law("b(k==0)", -1004);
        law("b(k=0=0)", -1005);
        law("b(k)", -1003);
        law("b(k=)", -1004);
        law("b(=0)", -1002);
    }

    private void asMuchAsMatters() {
        holds("1=1|1/0=0", true);
        holds("1=2|1/0=0", false);
        holds("1/0=0|1=1", false);
        holds("1=2&1/0=0|1=1", true);
        holds("!(1=2&1/0=0)", true);
        holds("1=1&1=1|1/0=0", true);
        holds("1=1&(1=1|1/0=0)", true);
        holds("1=2|1=1|1/0=0", true);
        holds("1=2&1=1&1/0=0|2=2", true);
        holds("(1=1|1/0=0)&1=1", true);
        holds("(1=1|1/0=0)&1/0=0", false);
        holds("!(1=1|1/0=0)|1=1", true);
    }

    /** Any 32 bits as a sum of numbers of five digits at most. */
    private static String number(int value) {
        return (value >>> 16) + "*65536+" + (value & 65535);
    }

    private void equal(String amount, int want) {
        holds(amount + "=" + number(want), true);
    }

    private void sums() {
        equal("7+3", 10);
        equal("7-3", 4);
        equal("3-7", -4);
        equal("1+2-3+4-5", -1);
        equal("k+r-s", 3 + 7 - 6);
        law("f1+(k=0)", -1003);
        law("f+1(k=0)", -1001);
        law("f1++1(k=0)", -1003);
        law("b(-1=0)", -1002);
    }

    private void products() {
        equal("7*3", 21);
        equal("7/3", 2);
        equal("7%3", 1);
        equal("2*3+4*5", 26);
        equal("20-2*3", 14);
        equal("20-7/2", 17);
        equal("20-7%4", 17);
        law("f1*(k=0)", -1003);
        law("f*1(k=0)", -1001);
        law("b(k*/r=0)", -1004);
    }

    private static Integer reckoned(int a, char sign, int b) {
        if (sign == '+') return a + b;
        if (sign == '-') return a - b;
        if (sign == '*') return a * b;
        return b == 0 ? null : (Integer) (sign == '/' ? a / b : a % b);
    }

    private void fromTheLeft() {
        int[] values = {0, 1, 7, 40, 99999};
        for (char one : SIGNS.toCharArray()) {
            for (char two : SIGNS.toCharArray()) {
                for (int k = 0; k < 125; k++) {
                    int a = values[k % 5];
                    int b = values[k / 5 % 5];
                    int c = values[k / 25];
                    boolean later = "+-".indexOf(one) >= 0 && "*/%".indexOf(two) >= 0;
                    Integer part = later ? reckoned(b, two, c) : reckoned(a, one, b);
                    Integer all = part == null ? null : later ? reckoned(a, one, part) : reckoned(part, two, c);
                    String text = "" + a + one + b + two + c;
                    if (all == null) {
                        holds(text + "=0|1=1", false);
                    } else {
                        equal(text, all);
                    }
                }
            }
        }
        equal("9-3-2", 4);
        equal("40/5/2", 4);
        equal("40/5*2", 16);
        equal("17%5*3", 6);
        equal("7*3%4/2*5", 0);
    }

    private void brackets() {
        equal("[1+2]*3", 9);
        equal("9-[3-2]", 8);
        equal("40/[5/2]", 20);
        equal("[[[7]]]", 7);
        equal("[2]*[3]", 6);
        law("f[1(k=0)", -1003);
        law("f1](k=0)", -1002);
        law("f[](k=0)", -1002);
        law("b([k=0])", -1004);
        law("b([k]1=0)", -1005);
        law("b((k+1)*2=0)", -1006);
    }

    private void numbers() {
        equal("0", 0);
        equal("9", 9);
        equal("10", 10);
        equal("123", 123);
        equal("9999", 9999);
        equal("99999", 99999);
        equal("00000", 0);
        equal("00009", 9);
        equal("01234", 1234);
        law("b(1k=0)", -1003);
        law("b(1[2]=0)", -1003);
    }

    private void letters() {
        for (int sign = 'A'; sign <= 'z'; sign++) {
            if (Character.isLetter(sign)) {
                law("b(" + (char) sign + "=0)", LETTERS.indexOf(sign) >= 0 ? 1 : -1002);
            }
        }
        law("b(kr=0)", -1003);
        law("b(k1=0)", -1003);
    }

    private void lettersOfThing() {
        equal("k", 3);
        equal("r", 7);
        equal("s", 6);
        equal("o", 2);
    }

    private void gone() {
        DepositJudge x = Cases.withHome();
        x.first(0, 0, 0, 9, 0);
        Due.law(x, "f3(o=0);f4(o>0)");
        doc.is("gone", x.thing(0, 0, 2), 3);
        x.last(0, 0, 0, 1);
        doc.is("not gone", x.thing(0, 0, 2), 4);
    }

    private void lettersOfHome() {
        equal("a", 35);
        equal("m", 30);
        equal("n", 3);
        equal("g", 2);
    }

    private void lettersOfClaim() {
        for (int cause = 0; cause < 10; cause++) {
            for (int evidence = 0; evidence < 8; evidence++) {
                DepositJudge x = Cases.claimed(cause, evidence);
                String own = "(c=" + cause + "&v=" + evidence + ")";
                Due.law(x, "d3" + own + ";p20" + own + ";b" + own);
                doc.is("in d", x.award(0, 14, 0), 1000);
                x.answer(0, 11, false);
                doc.is("in b", x.award(0, 14, 1), 5);
                doc.is("in p", x.award(0, 14, 0), 200);
            }
        }
        DepositJudge x = Cases.lettered();
        x.claim(0, 0, 8, 5, 0);
        x.answer(0, 0, false);
        String all = "(k=3&r=7&s=6&o=2&a=35&m=30&n=3&g=2&c=8&v=5)";
        Due.law(x, "p10" + all + ";b" + all + ";d0" + all);
        doc.is("all the others in b", x.award(0, 0, 1), 5);
        doc.is("all the others in p", x.award(0, 0, 0), 3500 * 4 / 6 / 10);
        x.answer(0, 9, false);
        doc.is("all the others in d", x.award(0, 1, 1), 3);
    }

    private void lettersInF() {
        DepositJudge x = Cases.claimed(8, 5);
        Due.law(x, "f1(c=8);f2(v=5);f3(c=0&v=0)");
        doc.is("fair wear", x.thing(0, 0, 2), 3);
        x.answer(0, 10, false);
        doc.is("in an award, too", x.award(0, 10, 0), 1000 * 2 / 5);
        doc.is("as before", x.thing(0, 0, 2), 3);
    }

    private void lettersInT() {
        DepositJudge x = Cases.lettered();
        x.claim(0, 0, 8, 5, 0);
        Due.law(x, "t1(k>0|r>0|s>0|o>0|a>0|c>0|v>0);t4(m=30&n=3&g=2)");
        doc.is("penalty", x.judged(0, 0, 2), 400);
        x.award(0, 0, 0);
        x.thing(0, 0, 2);
        doc.is("behind an award", x.judged(0, 0, 2), 400);
        doc.is("beside awards", x.judged(0, 0, 10) + x.judged(0, 0, 11) + x.judged(0, 0, 12), 500);
    }

    private void bits() {
        equal("65535*65536+65535+1", 0);
        equal("32768*65536", Integer.MIN_VALUE);
        equal("32768*65536-1", Integer.MAX_VALUE);
        equal("99999*99999", 99999 * 99999);
        equal("99999*99999*99999", 99999 * 99999 * 99999);
        holds("32768*65536<0", true);
        holds("0<32768*65536-1", true);
        holds("65536*65536=0", true);
        equal("[32768*65536]/[0-1]", Integer.MIN_VALUE);
        equal("[32768*65536]%[0-1]", 0);
        equal("[0-7]/2", -3);
        equal("[0-7]%4", -3);
        equal("7/[0-2]", -3);
        equal("7%[0-4]", 3);
        equal("[0-7]/[0-2]", 3);
        equal("[0-7]%[0-4]", -3);
        wear("f65536*65536+3(1=1)", 3);
        wear("f32768*65536-1(1=1)", 9);
        wear("f32768*65536(1=1)", 0);
        wear("f0-32768*65536(1=1)", 0);
    }

    private void refusedTest() {
        holds("1/0=0", false);
        holds("1%0=0", false);
        holds("0/0=0", false);
        holds("0=1/0", false);
        holds("1/0<1", false);
        holds("0*[1/0]=0", false);
        holds("!1/0=0", false);
        holds("!!1/0=0", false);
        holds("!(1/0=1)", false);
        holds("1/[k-3]=0|1=1", false);
        holds("1=1&1%[r-7]=0", false);
        wear("f1(1/0=0);f2(!1%0=0);f3(1=1)", 3);
        doc.is("p", awarded("p1(1/0=0);p20(1=1)"), 200);
        doc.is("d", stands("d1(1/0=0);d20(1=1)"), 31);
        doc.is("t", penaltyBy("t1(1/0=0);t2(1=1)"), 200);
    }

    private void refusedAmount() {
        wear("f1/0(1=1)", 0);
        wear("f1%0(1=1)", 0);
        wear("f5+1/0(1=1)", 0);
        wear("f5+[1%0](1=1)", 0);
        wear("f5+0*[1/0](1=1)", 0);
        wear("f5/[k-3](1=1);f6(1=1)", 0);
        doc.is("p", awarded("p50+1/0(1=1)"), 0);
        doc.is("d", stands("d50+1/0(1=1)"), 11);
        doc.is("t", penaltyBy("t5+1/0(1=1)"), 0);
    }

    private void firstFault() {
        law("x(k=123456)", -1000);
        law("b(k=123456);x", -2009);
        law("b(k=0)x;b(((((((", -1006);
        law("b(((((((k=123456", -5007);
        law("f123456[[[[[[[", -2006);
        law("f[[[[[[[123456", -5007);
        law(many(14) + "x" + ";b(k=123456)", -1097);
        law(many(14) + ";b(k=123456)", -4098);
        law(many(13) + ";b(k=123456);b(k=0)", -2000 - many(13).length() - 10);
        law("b(k=0);;" + repeated("(", 20), -1007);
    }

    /** At each place of f1(k=0) any byte is tried: what can't stand is told there, what can leaves what follows to tell. */
    private void unfit() {
        String text = "f1(k=0)";
        String[] fit = {"fpdtb", FACTOR, DIGITS + SIGNS + "(", FACTOR + "!(", SIGNS + "<>=", FACTOR, DIGITS + SIGNS + ")|&", ";"};
        for (int at = 0; at < fit.length; at++) {
            for (int sign = 0; sign < 256; sign++) {
                boolean can = fit[at].indexOf(sign) >= 0;
                boolean whole = at == 6 && sign == ')';
                law(text.substring(0, at) + (char) sign, whole ? 1 : can ? -1000 - at - 1 : -1000 - at);
            }
        }
        String[][] places = {{"b(k<[0", SIGNS + DIGITS + "]"}, {"b(k<[r", SIGNS + "]"}, {"b(k<[r]", SIGNS + ")|&"},
            {"b((k>0", SIGNS + DIGITS + ")|&"}, {"b((k>0)", ")|&"}, {"b(!", FACTOR + "!("}, {"b(k=0&", FACTOR + "!("},
            {"b(k=0|", FACTOR + "!("}, {"b(k+", FACTOR}, {"b(k%", FACTOR}, {"b([", FACTOR}, {"b(!k", SIGNS + "<>="},
            {"b", "("}, {"p[s]", SIGNS + "("}, {"b(k=0);", "fpdtb"}, {"b(12345", SIGNS + "<>="}, {"b([k]", SIGNS + "<>="}};
        for (String[] place : places) {
            for (int sign = 0; sign < 256; sign++) {
                boolean can = place[1].indexOf(sign) >= 0;
                boolean sixth = place[0].endsWith("12345") && DIGITS.indexOf(sign) >= 0;
                int at = place[0].length();
                boolean whole = sign == ')' && can && !place[0].equals("b((k>0");
                law(place[0] + (char) sign, sixth ? -2000 - at : whole ? 1 : can ? -1000 - at - 1 : -1000 - at);
            }
        }
    }

    private void unfitEnd() {
        String text = "f1+[k*2](!(r=0|s<12345)&o>m);b(k=0)";
        law(text, 2);
        for (int n = 1; n < text.length(); n++) {
            boolean whole = n == text.indexOf(';');
            law(text.substring(0, n), whole ? 1 : -1000 - n);
        }
    }

    private void sixthDigit() {
        law("f12345(k=0)", 1);
        law("f123456(k=0)", -2006);
        law("f1234567(k=0)", -2006);
        law("f000000(k=0)", -2006);
        law("b(123456=0)", -2007);
        law("b(k=123456", -2009);
        law("b(k=12345", -1009);
        law("b(12345+123456=0)", -2013);
        law("b([999999]=0)", -2008);
        law("b(k=0);b(k=12345", -1016);
        law("b(k=0);b(k=123456", -2016);
    }

    private void fifteenth() {
        for (char letter : "fpdtb".toCharArray()) {
            law(many(14) + ";" + letter, -4098);
            law(many(14) + ";" + letter + "1(k=0)", -4098);
        }
        law(many(20), -4098);
        String longer = repeated("f10(k=10);", 14);
        law(longer + "b", -4140);
    }

    private void fifteenthThatCantStand() {
        for (int sign = 0; sign < 256; sign++) {
            boolean can = "fpdtb".indexOf(sign) >= 0;
            law(many(14) + ";" + (char) sign, can ? -4098 : -1098);
        }
        law(many(14) + ";", -1098);
        law(many(13) + ";k", -1091);
    }

    /** Every row of ( and ! with [ behind them that the grammar knows, six and seven deep. */
    private void seventhOpen() {
        for (int brackets = 0; brackets <= 6; brackets++) {
            for (int bits = 0; bits < 1 << 6 - brackets; bits++) {
                StringBuilder open = new StringBuilder();
                StringBuilder close = new StringBuilder();
                for (int k = 0; k < 6 - brackets; k++) {
                    boolean round = (bits >> k & 1) != 0;
                    open.append(round ? '(' : '!');
                    close.append(round ? ")" : "");
                }
                String seven = "b(" + open + repeated("[", brackets) + "k" + repeated("]", brackets) + "=0" + close + ")";
                law(seven, -5007);
                int last = seven.charAt(7) == '[' ? seven.indexOf(']') : seven.charAt(7) == '(' ? seven.length() - 1 : -1;
                StringBuilder six = new StringBuilder(seven);
                if (last >= 0) {
                    six.deleteCharAt(last);
                }
                law(six.deleteCharAt(7).toString(), 1);
            }
        }
        law("b(k=[[[[[[k]]]]]])", -5009);
        law("b((k=0)&(k=0)&(k=0)&(k=0)&(k=0)&(k=0)&(k=0))", 1);
        law("b([k]+[k]+[k]+[k]+[k]+[k]+[k]=0)", 1);
        law("b((((((*", -1007);
        law("b((((([(", -1007);
        law("b((((([!", -1007);
    }

    private void clauseCounts() {
        law("b((((((k=0))))))", 1);
        law("b(((((((k=0)))))))", -5007);
        law("b(!!!!!k=0)", 1);
        law("b(!!!!!!k=0)", -5007);
        law("b([[[[[k]]]]]=0)", 1);
        law("b([[[[[[k]]]]]]=0)", -5007);
        law("b(k=0);b(((((((k=0)))))))", -5014);
    }

    private void openTillPieceEnds() {
        law("b(!!!!!k=[0])", -5009);
        law("b(!!!!!k+[0]=0)", -5009);
        law("b(!!!!k=[0])", 1);
        law("b(!!!!k=[[0]])", -5009);
        law("b(!!!!!k=0&k=[0])", 1);
        law("b(!!!!!k=0|((((([k]=0)))))|!!!!!k=0)", -5016);
        law("b(!!!!!k=0|((((k=[0]))))|!!!!!k=0)", 1);
        law("b(!(!(k=[k]&!k=r)))", 1);
        law("b(!(!(k=[k]&!k=[r])))", -5015);
        law("b(!(k=0)&((((([0]=0))))))", -5014);
        law("b(!(k=0)&(((([0]=0)))))", 1);
        law("b(!(((((k=0))))))", -5007);
    }

    private void amountStandsAhead() {
        law("f[[[[[[1]]]]]](k=0)", 1);
        law("f[[[[[[[1]]]]]]](k=0)", -5007);
        law("f[[[[[[1]]]]]]((((((k=0))))))", 1);
        law("f[[[[[[1]]]]]](((((((k=0)))))))", -5020);
        law("f[1]+[[2]]*[[[[[[3]]]]]](k=0)", 1);
    }
}
