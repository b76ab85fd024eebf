/** The sentences of the promises: what each call answers for what is there, what can't be, what is full, what is lacking. */
final class PromiseSentences {
    private static final int[] ANY = {Integer.MIN_VALUE, -100000, -3, -2, -1, 0, 1, 2, 3, 4, 5, 6, 7, 8, 9, 10, 11, 12, 13, 14,
        19, 20, 26, 29, 30, 31, 59, 60, 100000, Integer.MAX_VALUE};

    private final Sentences doc;

    PromiseSentences(Sentences doc) {
        this.doc = doc;
    }

    void run() {
        homes();
        lists();
        law();
        things();
        claims();
        judged();
        offers();
        doubles();
        pictures();
        kept();
    }

    private void homes() {
        doc.promise(1, "No HOMES, LAW, CLAIMS; THE SEED 1.", this::newObject);
        doc.promise(2, "LIFE of a KIND: true;", () -> doc.yes("life", Cases.withHome().life(7, 360)));
        doc.promise(2, "false: no such ones.", this::noLife);
        doc.promise(3, "PRICE: true;", () -> doc.yes("price", Cases.withHome().price(7, 3, 99999)));
        doc.promise(3, "false: no such ones.", this::noPrice);
        doc.promise(4, "A HOME: its number;", this::homeNumbers);
        doc.promise(4, "NONE: no such ones,", this::noHome);
        doc.promise(4, "6 are there.", this::sixHomes);
        doc.promise(5, "A TENANT's PART: true;", this::part);
        doc.promise(5, "false: no such ones.", this::noPart);
        doc.promise(6, "RENT (what 0), BILLS (1), KEYS (2) owed: true;", this::owes);
        doc.promise(6, "false: no such ones.", this::noDebt);
    }

    private void lists() {
        doc.promise(7, "A THING of the FIRST LIST: its number;", () -> numbers(true));
        doc.promise(7, "NONE: no such ones,", this::noFirst);
        doc.promise(7, "20 are there.", () -> twenty(true));
        doc.promise(8, "A THING of the LAST LIST: its number;", () -> numbers(false));
        doc.promise(8, "NONE: no such ones,", this::noLast);
        doc.promise(8, "20 are there.", () -> twenty(false));
    }

    private void law() {
        doc.promise(9, "Twenty bytes come behind the tape,", this::twentyBytes);
        doc.promise(9, "the highest of each int first:", this::highestFirst);
        doc.promise(9, "how many it has;", this::howManyBytes);
        doc.promise(9, "NONE if that would be more than 220.", this::moreThan220);
        doc.promise(10, "THE LAW by the first n bytes of the tape (1 to 200;", this::firstBytes);
        doc.promise(10, "empty then),", this::emptyThen);
        doc.promise(10, "in place of the one before:", this::inPlaceOfTheLaw);
        doc.promise(10, "how many CLAUSES;", this::howManyClauses);
        doc.promise(10, "a FAULT: -1000 times its number, less its place", this::faultAndPlace);
        doc.promise(10, "(the TEXT before stays);", this::textStays);
        doc.promise(10, "NONE: no such n,", this::noSuchLength);
        doc.promise(10, "it has not so many", this::notSoManyBytes);
        doc.promise(10, "(the tape stays).", this::tapeStays);
    }

    private void things() {
        doc.promise(11, "Of THING i of the FIRST LIST, what 0 to which it is JOINED (-2: none),", this::joinedTo);
        doc.promise(11, "1 CHANGE, 2 STATES that fair wear may take (f), 3 WORTH (AGED), 4 LOST;", this::ofThing);
        doc.promise(11, "NONE: no such ones.", this::noThing);
        doc.promise(12, "Whether THING j of the LAST LIST is NEW (1, 0);", this::isNew);
        doc.promise(12, "NONE: no such ones.", this::noneNew);
        doc.promise(13, "LED: WORTH after so many years;", this::led);
        doc.promise(13, "NONE: no such ones.", this::noneLed);
    }

    private void claims() {
        doc.promise(14, "A CLAIM: its number;", this::claimNumbers);
        doc.promise(14, "-2: there is one for that THING;", this::claimedBefore);
        doc.promise(14, "NONE: no such ones,", this::noClaim);
        doc.promise(14, "30 are there.", this::thirtyClaims);
        doc.promise(15, "AGREED: true;", () -> doc.yes("agree", Cases.claimed(0, 0).agree(0, 999999)));
        doc.promise(15, "false: no such ones (0 to 999999).", this::notAgreed);
        doc.promise(16, "An ANSWER (in place of the one before): true;", this::answer);
        doc.promise(16, "false: no such ones,", this::noAnswer);
        doc.promise(16, "ahead of the CLAIM.", this::answerAhead);
        doc.promise(17, "AWARD of a CLAIM on a DAY, what 0 pence, 1 the REASON;", this::award);
        doc.promise(17, "-2: it was not made by then;", this::notMadeByThen);
        doc.promise(17, "NONE: no such ones.", this::noAward);
        doc.promise(30, "BY KIND on a DAY;", this::byKind);
        doc.promise(30, "NONE: no such ones.", this::noKind);
    }

    private void judged() {
        doc.promise(18, "JUDGED, what 0 TO THE OWNER, 1 BACK (without the PENALTY), 2 PENALTY, 3 AWARDS together,", this::judgedHome);
        doc.promise(18, "10 + t what TENANT t gets BACK (with the PENALTY);", this::judgedTenants);
        doc.promise(18, "NONE: no such ones.", this::notJudged);
        doc.promise(33, "CHECK of a HOME on a DAY by the first n numbers of the tape (0 to 4; four bytes each;", this::checkNumbers);
        doc.promise(33, "empty then): NONE: right;", this::checkRight);
        doc.promise(33, "else the place of the first number that is not so", this::checkWrong);
        doc.promise(33, "(n: some are lacking;", this::checkLacking);
        doc.promise(33, "how many TENANTS, if n is above that);", this::checkTooMany);
        doc.promise(33, "-2: no such ones,", this::noCheck);
        doc.promise(33, "it has not so many (the tape stays).", this::notSoManyNumbers);
    }

    private void offers() {
        doc.promise(19, "An OFFER of the owner (true) or the TENANTS, in place of the one before:", this::offerInPlace);
        doc.promise(19, "1 both are there now, 0 not yet;", this::bothThere);
        doc.promise(19, "NONE: no such ones.", this::noOffer);
        doc.promise(20, "MET: the middle (it stays so);", this::met);
        doc.promise(20, "-2: one is lacking;", this::oneLacks);
        doc.promise(20, "-3: they do not MEET (both fall);", this::notMet);
        doc.promise(20, "NONE: no such HOME.", this::noHomeToMeet);
        doc.promise(21, "KIN, or no more: true;", this::kin);
        doc.promise(21, "false: no such ones,", this::noKin);
        doc.promise(21, "it is so.", this::kinAlready);
        doc.promise(22, "THE SEED (0 to 65535; X, too): true;", this::seed);
        doc.promise(22, "false: no such number.", this::noSeed);
        doc.promise(23, "DRAWN: the JUDGE;", this::draw);
        doc.promise(23, "-2: all are KIN;", this::allKin);
        doc.promise(23, "NONE: no such HOME.", this::noHomeToDraw);
    }

    private void doubles() {
        doc.promise(24, "A DOUBLE: how many there are;", this::twice);
        doc.promise(24, "NONE: no such ones,", this::noDouble);
        doc.promise(24, "one twice,", this::oneTwice);
        doc.promise(24, "40 are there.", this::fortyDoubles);
        doc.promise(25, "SPREAD of a JUDGE, what 0 above, 1 below the line;", this::spread);
        doc.promise(25, "LEANS, what 2 above (may be below 0), 3 below it;", this::leans);
        doc.promise(25, "each without a common divisor;", this::commonDivisor);
        doc.promise(25, "-1000000: it has no DOUBLES,", this::noDoubles);
        doc.promise(25, "no such ones.", this::noSpread);
        doc.promise(26, "LIKE a HOME, what 0 which, 1 the distance;", this::like);
        doc.promise(26, "-2: there is no other one;", this::noOther);
        doc.promise(26, "NONE: no such ones.", this::noneLike);
    }

    private void pictures() {
        doc.promise(27, "A FACT: b is at least so many days behind a (0 to 10 each):", this::fact);
        doc.promise(27, "how many FACTS there are;", this::howManyFacts);
        doc.promise(27, "NONE: no such ones,", this::noFact);
        doc.promise(27, "one twice,", this::onePictureTwice);
        doc.promise(27, "30 are there.", this::thirtyFacts);
        doc.promise(28, "DATED, what 0 the earliest, 1 the latest;", this::dated);
        doc.promise(28, "-100000: no bound,", this::noBound);
        doc.promise(28, "no such ones.", this::noPicture);
        doc.promise(29, "WRONG FACTS: how many (what NONE),", this::howManyWrong);
        doc.promise(29, "else the what-th of them (from 0);", this::whichWrong);
        doc.promise(29, "NONE also: no such one.", this::noneWrong);
    }

    private void kept() {
        doc.promise(31, "KEPT: how many CLAIMS there are.", this::keep);
        doc.promise(32, "UNDONE: true;", this::undo);
        doc.promise(32, "false: none was KEPT.", this::nothingKept);
        doc.promise(34, "0 HOMES, 1 CLAIMS, 2 CLAUSES, 3 bytes of the tape, 4 DOUBLES, 5 FACTS, 6 X;", this::counts);
        doc.promise(34, "10 + h THINGS of the FIRST LIST, 20 + h of the LAST LIST of HOME h,", this::countsOfHomes);
        doc.promise(34, "30 + c the HOME of CLAIM c.", this::homesOfClaims);
        doc.promise(34, "NONE for others.", this::noCount);
    }

    private void newObject() {
        DepositJudge x = new DepositJudge();
        for (int what = 0; what < 60; what++) {
            doc.is("count " + what, x.count(what), what < 6 ? 0 : what == 6 ? 1 : -1);
        }
        for (int h = 0; h < 6; h++) {
            doc.is("judged", x.judged(h, 0, 0), -1);
        }
        doc.is("award", x.award(0, 0, 0), -1);
        doc.no("undo", x.undo());
        doc.is("wrong", x.wrong(-1), 0);
    }

    private void noLife() {
        for (int v : ANY) {
            doc.is("kind " + v, new DepositJudge().life(v, 10) ? 1 : 0, v >= 0 && v < 8 ? 1 : 0);
            doc.is("months " + v, new DepositJudge().life(0, v) ? 1 : 0, v >= 1 && v <= 360 ? 1 : 0);
        }
    }

    private void noPrice() {
        for (int v : ANY) {
            doc.is("kind " + v, new DepositJudge().price(v, 0, 10) ? 1 : 0, v >= 0 && v < 8 ? 1 : 0);
            doc.is("region " + v, new DepositJudge().price(0, v, 10) ? 1 : 0, v >= 0 && v < 4 ? 1 : 0);
            doc.is("pence " + v, new DepositJudge().price(0, 0, v) ? 1 : 0, v >= 0 && v < 100000 ? 1 : 0);
        }
    }

    private void homeNumbers() {
        DepositJudge x = new DepositJudge();
        for (int h = 0; h < 6; h++) {
            doc.is("home " + h, x.home(h % 4, 1 + h % 4, 100 * h, h, 2 * h, h % 2 == 0), h);
            doc.is("its deposit", x.judged(h, 0, 1), 100 * h);
            doc.is("how many", x.count(0), h + 1);
        }
    }

    private void noHome() {
        for (int v : ANY) {
            doc.is("region " + v, new DepositJudge().home(v, 1, 0, 0, 9, true), v >= 0 && v < 4 ? 0 : -1);
            doc.is("tenants " + v, new DepositJudge().home(0, v, 0, 0, 9, true), v >= 1 && v <= 4 ? 0 : -1);
            doc.is("deposit " + v, new DepositJudge().home(0, 1, v, 0, 9, true), v >= 0 && v <= 999999 ? 0 : -1);
            doc.is("from " + v, new DepositJudge().home(0, 1, 0, v, 9, true), v >= 0 && v <= 9 ? 0 : -1);
            doc.is("to " + v, new DepositJudge().home(0, 1, 0, 9, v, true), v >= 9 && v <= 999 ? 0 : -1);
        }
    }

    private void sixHomes() {
        DepositJudge x = Cases.withHomes(6);
        doc.is("a seventh", x.home(0, 1, 0, 0, 0, true), -1);
        doc.is("how many", x.count(0), 6);
        doc.is("the last is as it was", x.judged(5, 0, 1), 100);
    }

    private void part() {
        DepositJudge x = new DepositJudge();
        x.home(0, 4, 400, 0, 0, true);
        x.home(0, 4, 400, 0, 0, true);
        doc.yes("part", x.part(0, 3, 5));
        doc.is("tenant 3", x.judged(0, 0, 13), 250);
        doc.is("tenant 0", x.judged(0, 0, 10), 50);
        doc.is("of another home", x.judged(1, 0, 13), 100);
    }

    private void noPart() {
        for (int v : ANY) {
            DepositJudge x = new DepositJudge();
            x.home(0, 3, 0, 0, 0, true);
            doc.is("home " + v, x.part(v, 0, 1) ? 1 : 0, v == 0 ? 1 : 0);
            doc.is("tenant " + v, x.part(0, v, 1) ? 1 : 0, v >= 0 && v < 3 ? 1 : 0);
            doc.is("n " + v, x.part(0, 0, v) ? 1 : 0, v >= 0 && v <= 99 ? 1 : 0);
        }
    }

    private void owes() {
        DepositJudge x = Cases.court();
        int[] owed = {10, 200, 3000};
        int all = 0;
        for (int what = 0; what < 3; what++) {
            doc.yes("owes " + what, x.owes(0, what, owed[what]));
            all += owed[what];
            doc.is("to the owner", x.judged(0, 0, 0), all);
            doc.yes("in its place", x.owes(0, what, owed[what] + 1));
            all++;
            doc.is("to the owner", x.judged(0, 0, 0), all);
        }
    }

    private void noDebt() {
        for (int v : ANY) {
            DepositJudge x = Cases.withHome();
            doc.is("home " + v, x.owes(v, 0, 1) ? 1 : 0, v == 0 ? 1 : 0);
            doc.is("what " + v, x.owes(0, v, 1) ? 1 : 0, v >= 0 && v < 3 ? 1 : 0);
            doc.is("pence " + v, x.owes(0, 0, v) ? 1 : 0, v >= 0 && v <= 999999 ? 1 : 0);
        }
    }

    private static int add(DepositJudge x, boolean first, int h) {
        return first ? x.first(h, 0, 0, 1, 0) : x.last(h, 0, 0, 1);
    }

    private void numbers(boolean first) {
        DepositJudge x = Cases.withHomes(6);
        for (int k = 0; k < 20; k++) {
            for (int h = 0; h < 6; h++) {
                doc.is("home " + h, add(x, first, h), k);
            }
        }
    }

    private void twenty(boolean first) {
        DepositJudge x = Cases.withHomes(1);
        for (int k = 0; k < 20; k++) {
            add(x, first, 0);
        }
        doc.is("a 21st", add(x, first, 0), -1);
        doc.is("how many", x.count(first ? 10 : 20), 20);
        doc.is("of the other list", add(x, !first, 0), 0);
    }

    private void noFirst() {
        for (int v : ANY) {
            doc.is("home " + v, Cases.withHome().first(v, 0, 0, 1, 0), v == 0 ? 0 : -1);
            doc.is("room " + v, Cases.withHome().first(0, v, 0, 1, 0), v >= 0 && v < 10 ? 0 : -1);
            doc.is("kind " + v, Cases.withHome().first(0, 0, v, 1, 0), v >= 0 && v < 8 ? 0 : -1);
            doc.is("state " + v, Cases.withHome().first(0, 0, 0, v, 0), v >= 1 && v <= 9 ? 0 : -1);
            doc.is("age " + v, Cases.withHome().first(0, 0, 0, 1, v), v >= 0 && v <= 360 ? 0 : -1);
        }
    }

    private void noLast() {
        for (int v : ANY) {
            doc.is("home " + v, Cases.withHome().last(v, 0, 0, 1), v == 0 ? 0 : -1);
            doc.is("room " + v, Cases.withHome().last(0, v, 0, 1), v >= 0 && v < 10 ? 0 : -1);
            doc.is("kind " + v, Cases.withHome().last(0, 0, v, 1), v >= 0 && v < 8 ? 0 : -1);
            doc.is("state " + v, Cases.withHome().last(0, 0, 0, v), v >= 1 && v <= 9 ? 0 : -1);
        }
    }

    private void twentyBytes() {
        DepositJudge x = Cases.lettered();
        String text = "f3(k=3);f4(k=3);b(k=3)";
        x.feed(Due.word(text, 0), Due.word(text, 4), Due.word(text, 8), Due.word(text, 12), Due.word(text, 16));
        doc.is("one row", x.count(3), 20);
        x.feed(Due.word(text, 20), 0, 0, 0, 0);
        doc.is("two rows", x.count(3), 40);
        doc.is("the second behind the first", x.law(22), 3);
        doc.is("the first is at the beginning", x.thing(0, 0, 2), 3);
    }

    private void highestFirst() {
        DepositJudge x = new DepositJudge();
        int bk = 'b' << 24 | '(' << 16 | 'k' << 8 | '=';
        x.feed(bk, '7' << 24 | ')' << 16 | ';' << 8 | 'b', '(' << 24 | 'r' << 16 | '=' << 8 | '0', ')' << 24, 0);
        doc.is("law", x.law(13), 2);
        x.feed(Integer.reverseBytes(bk), 0, 0, 0, 0);
        doc.is("the other way round", x.law(4), -1000);
        x.feed(0x62FFFFFF, 0, 0, 0, 0);
        doc.is("bytes beyond 127", x.law(4), -1001);
        DepositJudge y = new DepositJudge();
        y.home(0, 1, 999999, 0, 0, true);
        y.feed(999999, -1, -1, -1, -1);
        doc.is("four bytes are a number", y.check(0, 0, 1), -1);
    }

    private void howManyBytes() {
        DepositJudge x = new DepositJudge();
        for (int row = 1; row <= 11; row++) {
            doc.is("feed", x.feed(-1, 0, 1, 2, 3), 20 * row);
            doc.is("count", x.count(3), 20 * row);
        }
    }

    private void moreThan220() {
        DepositJudge x = new DepositJudge();
        for (int row = 1; row <= 11; row++) {
            x.feed(0, 0, 0, 0, 0);
        }
        doc.is("a twelfth", x.feed(0, 0, 0, 0, 0), -1);
        doc.is("count", x.count(3), 220);
        x.law(1);
        doc.is("empty again", x.feed(0, 0, 0, 0, 0), 20);
    }

    private void firstBytes() {
        DepositJudge x = new DepositJudge();
        String text = "b(k=0);b(k=0);b(k=0)";
        for (int n = 1; n <= 20; n++) {
            Due.feed(x, text);
            doc.is("the first " + n, x.law(n), n % 7 == 6 ? n / 7 + 1 : -1000 - n);
        }
        String longest = "b(k=0+" + "1+".repeat(96) + "1)";
        doc.is("length", longest.length(), 200);
        Due.feed(x, longest);
        doc.is("200", x.law(200), 1);
    }

    private void emptyThen() {
        DepositJudge x = new DepositJudge();
        Due.feed(x, "b(k=0);b(k=0);b(k=0);b(k=0);b(k=0)");
        doc.is("bytes", x.count(3), 40);
        doc.is("a law", x.law(6), 1);
        doc.is("bytes", x.count(3), 0);
        doc.is("nothing is left of it", x.law(1), -1);
        Due.feed(x, "x");
        doc.is("a fault", x.law(1), -1000);
        doc.is("bytes", x.count(3), 0);
    }

    private void inPlaceOfTheLaw() {
        DepositJudge x = Cases.lettered();
        doc.is("a law", Due.law(x, "f1(k=3);t5(1=1)"), 2);
        doc.is("f", x.thing(0, 0, 2), 1);
        doc.is("another", Due.law(x, "f2(k=3)"), 1);
        doc.is("f", x.thing(0, 0, 2), 2);
        doc.is("no t any more", x.judged(0, 0, 2), 0);
        doc.is("clauses", x.count(2), 1);
        doc.is("the third", Due.law(x, "t1(k=0);f3(k=3);t4(1=1)"), 3);
        doc.is("f", x.thing(0, 0, 2), 3);
        doc.is("t", x.judged(0, 0, 2), 100);
        for (int turn = 0; turn < 40; turn++) {
            doc.is("one more", Due.law(x, "f9(!k=3|r=0);f" + turn + "%10(k+r=s+4&o<3)"), 2);
            doc.is("f", x.thing(0, 0, 2), turn % 10);
        }
        for (int turn = 0; turn < 4; turn++) {
            doc.is("three, none of which holds", Due.law(x, "f1(k=0);t1(k=1);f2(k=2)"), 3);
            doc.is("f", x.thing(0, 0, 2), 0);
            doc.is("three", Due.law(x, "f1(k=0);t1(m=30);f2(k=3)"), 3);
            doc.is("f", x.thing(0, 0, 2), 2);
            doc.is("a fault behind three", Due.law(x, "f5(k=3);t6(m=30);f7(k=3);"), -1025);
            doc.is("one that does not hold", Due.law(x, "f3(k=0)"), 1);
            doc.is("f", x.thing(0, 0, 2), 0);
            doc.is("t", x.judged(0, 0, 2), 0);
        }
    }

    private void howManyClauses() {
        for (int clauses = 1; clauses <= 14; clauses++) {
            DepositJudge x = new DepositJudge();
            doc.is("law", Due.law(x, "b(k=0)" + ";b(k=0)".repeat(clauses - 1)), clauses);
            doc.is("count", x.count(2), clauses);
        }
    }

    private void faultAndPlace() {
        String[] texts = {"x", "b", "b(k=0)x", "f123456(k=0)", "b(((((((k=0)))))))", "b(k=0);".repeat(14) + "b"};
        int[] want = {-1000, -1001, -1006, -2006, -5007, -4098};
        for (int k = 0; k < texts.length; k++) {
            doc.is(texts[k], Due.law(new DepositJudge(), texts[k]), want[k]);
        }
        String longest = "b(k=0+" + "1+".repeat(96) + "1x";
        doc.is("at the last of 200", Due.law(new DepositJudge(), longest), -1199);
        doc.is("at the end of 200", Due.law(new DepositJudge(), longest.replace('x', '2')), -1200);
    }

    private void textStays() {
        DepositJudge x = Cases.lettered();
        Due.law(x, "f3(k=3);b(k=0)");
        for (String text : new String[] {"x", "f", "f4(k=3);", "f4(k=3);f123456", "f[[[[[[[", "f4(k=3);".repeat(14) + "f4(k=3)"}) {
            for (int turn = 0; turn < 9; turn++) {
                doc.yes("a fault", Due.law(x, text) <= -1000);
            }
            doc.is("f", x.thing(0, 0, 2), 3);
            doc.is("clauses", x.count(2), 2);
        }
    }

    private void noSuchLength() {
        DepositJudge x = new DepositJudge();
        for (int row = 0; row < 11; row++) {
            x.feed(0, 0, 0, 0, 0);
        }
        for (int n : new int[] {0, -1, Integer.MIN_VALUE, 201, 220, 221, Integer.MAX_VALUE}) {
            doc.is("n " + n, x.law(n), -1);
        }
        doc.is("n 200", x.law(200), -1000);
    }

    private void notSoManyBytes() {
        DepositJudge x = new DepositJudge();
        doc.is("1 of none", x.law(1), -1);
        x.feed(0, 0, 0, 0, 0);
        doc.is("21 of 20", x.law(21), -1);
        doc.is("200 of 20", x.law(200), -1);
        doc.is("20 of 20", x.law(20), -1000);
    }

    private void tapeStays() {
        DepositJudge x = new DepositJudge();
        Due.feed(x, "b(k=0)");
        for (int n : new int[] {0, -1, 21, 201}) {
            x.law(n);
            doc.is("bytes", x.count(3), 20);
        }
        doc.is("as they were", x.law(6), 1);
    }

    private void joinedTo() {
        DepositJudge x = Cases.joined(new int[] {4, 9, 4}, 9, 4);
        doc.is("thing 0", x.thing(0, 0, 0), 1);
        doc.is("thing 1", x.thing(0, 1, 0), 0);
        doc.is("thing 2", x.thing(0, 2, 0), -2);
    }

    private void ofThing() {
        DepositJudge x = Cases.lettered();
        Due.law(x, "f1(1=1)");
        int[] want = {0, 1, 1, 3500, 1750};
        for (int what = 0; what < 5; what++) {
            doc.is("what " + what, x.thing(0, 0, what), want[what]);
        }
    }

    private void noThing() {
        for (int v : ANY) {
            DepositJudge x = Cases.joined(new int[] {5, 5, 5});
            doc.is("home " + v, x.thing(v, 0, 1), v == 0 ? 2 : -1);
            doc.is("thing " + v, x.thing(0, v, 1), v >= 0 && v < 3 ? 2 : -1);
            doc.no("what " + v, x.thing(0, 0, v) == -1 ^ (v < 0 || v > 4));
        }
        doc.is("none at all", Cases.withHome().thing(0, 0, 0), -1);
    }

    private void isNew() {
        DepositJudge x = Cases.joined(new int[] {5}, 4, 5);
        doc.is("new", x.isNew(0, 0), 1);
        doc.is("not new", x.isNew(0, 1), 0);
    }

    private void noneNew() {
        for (int v : ANY) {
            DepositJudge x = Cases.joined(new int[] {}, 5, 5, 5);
            doc.is("home " + v, x.isNew(v, 0), v == 0 ? 1 : -1);
            doc.is("thing " + v, x.isNew(0, v), v >= 0 && v < 3 ? 1 : -1);
        }
        doc.is("one of the first list alone", Cases.joined(new int[] {5}).isNew(0, 0), -1);
    }

    private void led() {
        DepositJudge x = Cases.lettered();
        for (int years = 0; years <= 30; years++) {
            doc.is("years " + years, x.led(0, 0, years), Math.max(0, 7000 * (65 - 12 * years) / 70));
        }
    }

    private void noneLed() {
        for (int v : ANY) {
            DepositJudge x = Cases.joined(new int[] {5, 5, 5});
            doc.is("home " + v, x.led(v, 0, 0), v == 0 ? 0 : -1);
            doc.is("thing " + v, x.led(0, v, 0), v >= 0 && v < 3 ? 0 : -1);
            doc.is("years " + v, x.led(0, 0, v), v >= 0 && v <= 30 ? 0 : -1);
        }
        doc.is("one of the last list alone", Cases.joined(new int[] {}, 5).led(0, 0, 0), -1);
    }

    private void claimNumbers() {
        DepositJudge x = Cases.court();
        for (int c = 0; c < 4; c++) {
            doc.is("claim", x.claim(0, 3 - c, c, c, c), c);
            doc.is("how many", x.count(1), c + 1);
        }
    }

    private void claimedBefore() {
        DepositJudge x = Cases.claimed(0, 0);
        doc.is("again", x.claim(0, 0, 0, 0, 10), -2);
        doc.is("otherwise", x.claim(0, 0, 5, 5, 99), -2);
        doc.is("another thing", x.claim(0, 1, 0, 0, 10), 1);
        doc.is("how many", x.count(1), 2);
    }

    private void noClaim() {
        for (int v : ANY) {
            doc.is("home " + v, Cases.court().claim(v, 0, 0, 0, 0), v == 0 ? 0 : -1);
            doc.is("thing " + v, Cases.court().claim(0, v, 0, 0, 0), v >= 0 && v < 4 ? 0 : -1);
            doc.is("cause " + v, Cases.court().claim(0, 0, v, 0, 0), v >= 0 && v < 10 ? 0 : -1);
            doc.is("evidence " + v, Cases.court().claim(0, 0, 0, v, 0), v >= 0 && v < 8 ? 0 : -1);
            doc.is("day " + v, Cases.court().claim(0, 0, 0, 0, v), v >= 0 && v <= 9999 ? 0 : -1);
        }
    }

    private void thirtyClaims() {
        DepositJudge x = Cases.withHomes(2);
        for (int k = 0; k < 20; k++) {
            x.first(0, 0, 0, 5, 0);
            x.first(1, 0, 0, 5, 0);
        }
        for (int c = 0; c < 30; c++) {
            doc.is("claim", x.claim(c / 20, c % 20, 0, 0, 0), c);
        }
        doc.is("a 31st", x.claim(1, 10, 0, 0, 0), -1);
        doc.is("for a thing that has one", x.claim(1, 9, 0, 0, 0), -2);
        doc.is("how many", x.count(1), 30);
    }

    private void notAgreed() {
        for (int v : ANY) {
            DepositJudge x = Cases.claimed(0, 0);
            doc.is("claim " + v, x.agree(v, 1) ? 1 : 0, v == 0 ? 1 : 0);
            doc.is("pence " + v, x.agree(0, v) ? 1 : 0, v >= 0 && v <= 999999 ? 1 : 0);
        }
        doc.no("no claim at all", Cases.court().agree(0, 0));
    }

    private void answer() {
        DepositJudge x = Cases.claimed(0, 0);
        Due.law(x, "b(1=1)");
        doc.yes("answer", x.answer(0, 20, true));
        doc.is("reason", x.award(0, 20, 1), 6);
        doc.yes("earlier", x.answer(0, 15, true));
        doc.is("reason", x.award(0, 15, 1), 6);
        doc.yes("without proof", x.answer(0, 15, false));
        doc.is("reason", x.award(0, 15, 1), 5);
        doc.yes("later", x.answer(0, 9999, false));
        doc.is("reason", x.award(0, 15, 1), 4);
    }

    private void noAnswer() {
        for (int v : ANY) {
            DepositJudge x = Cases.court();
            x.claim(0, 0, 0, 0, 0);
            doc.is("claim " + v, x.answer(v, 1, true) ? 1 : 0, v == 0 ? 1 : 0);
            doc.is("day " + v, x.answer(0, v, true) ? 1 : 0, v >= 0 && v <= 9999 ? 1 : 0);
        }
        doc.no("no claim at all", Cases.court().answer(0, 0, true));
    }

    private void answerAhead() {
        DepositJudge x = Cases.claimed(0, 0);
        doc.no("a day ahead", x.answer(0, 9, true));
        doc.no("far ahead", x.answer(0, 0, true));
        doc.is("no answer yet", x.award(0, 10, 1), 4);
        doc.yes("on its day", x.answer(0, 10, true));
        doc.is("answered", x.award(0, 10, 1), 8);
    }

    private void award() {
        DepositJudge x = Cases.claimed(0, 0);
        x.agree(0, 77);
        doc.is("pence", x.award(0, 10, 0), 77);
        doc.is("reason", x.award(0, 10, 1), 4);
    }

    private void notMadeByThen() {
        DepositJudge x = Cases.claimed(0, 0);
        for (int day = 0; day < 10; day++) {
            doc.is("pence, day " + day, x.award(0, day, 0), -2);
            doc.is("reason, day " + day, x.award(0, day, 1), -2);
        }
        doc.is("on its day", x.award(0, 10, 0), 0);
    }

    private void noAward() {
        for (int v : ANY) {
            DepositJudge x = Cases.court();
            x.claim(0, 0, 0, 0, 0);
            doc.is("claim " + v, x.award(v, 0, 1), v == 0 ? 4 : -1);
            doc.is("day " + v, Math.min(0, x.award(0, v, 1)), v >= 0 && v <= 9999 ? 0 : -1);
            doc.is("what " + v, x.award(0, 0, v), v == 0 ? 0 : v == 1 ? 4 : -1);
        }
        doc.is("no claim at all", Cases.court().award(0, 0, 0), -1);
        doc.is("no such what, though not made", Cases.claimed(0, 0).award(0, 0, 2), -1);
    }

    private void byKind() {
        DepositJudge x = Cases.claimed(0, 0);
        x.agree(0, 77);
        doc.is("a day ahead", x.byKind(0, 9), 0);
        doc.is("on its day", x.byKind(0, 10), 77);
        doc.is("of another kind", x.byKind(1, 10), 0);
        doc.is("later", x.byKind(0, 9999), 1000);
    }

    private void noKind() {
        for (int v : ANY) {
            doc.is("kind " + v, Cases.court().byKind(v, 0), v >= 0 && v < 8 ? 0 : -1);
            doc.is("day " + v, Cases.court().byKind(0, v), v >= 0 && v <= 9999 ? 0 : -1);
        }
    }

    /** 1000 to the owner by a claim, 9 back, twice 1009 as a penalty, for two tenants. */
    private static DepositJudge judgedCourt() {
        DepositJudge x = new DepositJudge();
        x.price(0, 0, 1000);
        x.home(0, 2, 1009, 0, 0, false);
        x.first(0, 0, 0, 5, 0);
        x.claim(0, 0, 0, 0, 10);
        x.agree(0, 1000);
        Due.law(x, "t2(1=1)");
        return x;
    }

    private void judgedHome() {
        DepositJudge x = judgedCourt();
        int[] want = {1000, 9, 2018, 1000};
        for (int what = 0; what < 4; what++) {
            doc.is("what " + what, x.judged(0, 10, what), want[what]);
        }
        x.owes(0, 0, 9999);
        doc.is("to the owner", x.judged(0, 10, 0), 1009);
        doc.is("awards", x.judged(0, 10, 3), 1000);
    }

    private void judgedTenants() {
        DepositJudge x = judgedCourt();
        doc.is("tenant 0", x.judged(0, 10, 10), 1014);
        doc.is("tenant 1", x.judged(0, 10, 11), 1013);
        doc.is("tenant 0 a day ahead", x.judged(0, 9, 10), 1514);
    }

    private void notJudged() {
        for (int v : ANY) {
            DepositJudge x = judgedCourt();
            doc.is("home " + v, x.judged(v, 0, 1), v == 0 ? 1009 : -1);
            doc.is("day " + v, Math.min(0, x.judged(0, v, 1)), v >= 0 && v <= 9999 ? 0 : -1);
            boolean is = v >= 0 && v < 4 || v == 10 || v == 11;
            doc.is("what " + v, x.judged(0, 10, v) == -1 ? -1 : 0, is ? 0 : -1);
        }
        for (int tenants = 1; tenants <= 4; tenants++) {
            DepositJudge x = new DepositJudge();
            x.home(0, tenants, 0, 0, 0, true);
            for (int t = -6; t < 6; t++) {
                boolean is = t >= 0 && t < tenants;
                doc.is("tenant " + t + " of " + tenants, x.judged(0, 0, 10 + t), is ? 0 : -1);
            }
        }
    }

    private void checkNumbers() {
        for (int tenants = 1; tenants <= 4; tenants++) {
            DepositJudge x = new DepositJudge();
            x.home(0, tenants, 250000 * tenants - 1, 0, 0, true);
            int t = 250000;
            x.feed(t - (tenants == 1 ? 1 : 0), t - (tenants == 2 ? 1 : 0), t - (tenants == 3 ? 1 : 0), t - 1, 7);
            doc.is(tenants + " numbers", x.check(0, 0, tenants), -1);
        }
        DepositJudge x = Cases.withHome();
        x.feed(0, 0, 0, 0, 0);
        doc.is("no numbers", x.check(0, 0, 0), 0);
        DepositJudge y = judgedCourt();
        y.feed(1514, 1513, 0, 0, 0);
        doc.is("on a day", y.check(0, 9, 2), -1);
        y.feed(1514, 1513, 0, 0, 0);
        doc.is("on a later day", y.check(0, 10, 2), 0);
    }

    private void checkRight() {
        DepositJudge x = judgedCourt();
        x.feed(1014, 1013, 1, 2, 3);
        x.feed(1, 2, 3, 4, 5);
        doc.is("right", x.check(0, 10, 2), -1);
        doc.is("tape", x.count(3), 0);
        x.feed(1013, 1013, 1, 2, 3);
        doc.is("wrong", x.check(0, 10, 2), 0);
        doc.is("tape", x.count(3), 0);
        x.feed(1014, 1013, 1, 2, 3);
        doc.is("lacking", x.check(0, 10, 0), 0);
        doc.is("tape", x.count(3), 0);
    }

    private void checkWrong() {
        DepositJudge x = judgedCourt();
        x.feed(1013, 1014, 0, 0, 0);
        doc.is("both", x.check(0, 10, 2), 0);
        x.feed(1014, 1014, 0, 0, 0);
        doc.is("the second", x.check(0, 10, 2), 1);
        x.feed(1014, 1014, 0, 0, 0);
        doc.is("the second, ahead of too many", x.check(0, 10, 3), 1);
        x.feed(1013, 1013, 0, 0, 0);
        doc.is("the first, ahead of lacking", x.check(0, 10, 1), 0);
    }

    private void checkLacking() {
        DepositJudge x = new DepositJudge();
        x.home(0, 4, 40, 0, 0, true);
        for (int n = 0; n < 4; n++) {
            x.feed(10, 10, 10, 10, 10);
            doc.is("n " + n, x.check(0, 0, n), n);
        }
        doc.is("n 0 of an empty tape", x.check(0, 0, 0), 0);
    }

    private void checkTooMany() {
        for (int tenants = 1; tenants < 4; tenants++) {
            DepositJudge x = new DepositJudge();
            x.home(0, tenants, 10 * tenants, 0, 0, true);
            for (int n = tenants + 1; n <= 4; n++) {
                x.feed(10, 10, 10, 10, 10);
                doc.is(n + " of " + tenants, x.check(0, 0, n), tenants);
            }
        }
    }

    private void noCheck() {
        for (int v : ANY) {
            DepositJudge x = judgedCourt();
            x.feed(0, 0, 0, 0, 0);
            doc.is("home " + v, x.check(v, 0, 0), v == 0 ? 0 : -2);
            doc.is("day " + v, x.check(0, v, 0), v >= 0 && v <= 9999 ? 0 : -2);
            DepositJudge y = judgedCourt();
            y.feed(0, 0, 0, 0, 0);
            doc.is("n " + v, y.check(0, 0, v), v >= 0 && v <= 4 ? 0 : -2);
            doc.is("tape, n " + v, y.count(3), v >= 0 && v <= 4 ? 0 : 20);
        }
    }

    private void notSoManyNumbers() {
        DepositJudge x = judgedCourt();
        for (int n = 1; n <= 4; n++) {
            doc.is(n + " of an empty tape", x.check(0, 10, n), -2);
        }
        x.feed(1014, 1013, 0, 0, 0);
        x.check(0, 10000, 2);
        x.check(1, 10, 2);
        x.check(0, 10, 5);
        doc.is("tape", x.count(3), 20);
        doc.is("as it was", x.check(0, 10, 2), -1);
    }

    private void offerInPlace() {
        DepositJudge x = Cases.withHome();
        x.offer(0, true, 10);
        x.offer(0, false, 20);
        doc.is("met", x.met(0), 15);
        x.offer(0, true, 14);
        doc.is("the owner's in place", x.met(0), 17);
        x.offer(0, false, 30);
        doc.is("the tenants' in place", x.met(0), 22);
    }

    private void bothThere() {
        DepositJudge x = Cases.withHomes(2);
        doc.is("the owner's", x.offer(0, true, 10), 0);
        doc.is("the owner's in place", x.offer(0, true, 11), 0);
        doc.is("the tenants' of another home", x.offer(1, false, 11), 0);
        doc.is("the tenants'", x.offer(0, false, 1), 1);
        doc.is("the tenants' in place", x.offer(0, false, 2), 1);
        doc.is("the owner's in place", x.offer(0, true, 0), 1);
        doc.is("the tenants' of another home in place", x.offer(1, false, 0), 0);
        doc.is("the owner's of another home", x.offer(1, true, 0), 1);
    }

    private void noOffer() {
        for (int v : ANY) {
            for (boolean owner : new boolean[] {false, true}) {
                doc.is("home " + v, Cases.withHome().offer(v, owner, 1), v == 0 ? 0 : -1);
                doc.is("pence " + v, Cases.withHome().offer(0, owner, v), v >= 0 && v <= 999999 ? 0 : -1);
            }
        }
    }

    private void met() {
        DepositJudge x = Cases.withHome();
        x.offer(0, true, 10);
        x.offer(0, false, 21);
        for (int k = 0; k < 3; k++) {
            doc.is("met", x.met(0), 15);
        }
        doc.is("both are there still", x.offer(0, false, 21), 1);
    }

    private void oneLacks() {
        doc.is("both", Cases.withHome().met(0), -2);
        for (boolean owner : new boolean[] {false, true}) {
            DepositJudge x = Cases.withHome();
            x.offer(0, owner, 0);
            doc.is("one", x.met(0), -2);
            doc.is("it stays", x.offer(0, !owner, 0), 1);
            doc.is("none", x.met(0), 0);
        }
    }

    private void notMet() {
        DepositJudge x = Cases.withHome();
        x.offer(0, true, 11);
        x.offer(0, false, 10);
        doc.is("not met", x.met(0), -3);
        doc.is("both fell", x.met(0), -2);
        doc.is("the tenants' alone", x.offer(0, false, 10), 0);
        doc.is("the owner's is lacking", x.met(0), -2);
    }

    private void noHomeToMeet() {
        for (int v : ANY) {
            doc.is("home " + v, Cases.withHomes(2).met(v), v == 0 || v == 1 ? -2 : -1);
        }
    }

    private void kin() {
        DepositJudge x = Cases.withHome();
        for (int judge = 0; judge < 6; judge++) {
            doc.yes("kin", x.kin(judge, 0, true));
        }
        doc.is("all", x.draw(0), -2);
        for (int judge = 0; judge < 6; judge++) {
            doc.yes("no more", x.kin(judge, 0, false));
            doc.is("the only one", x.draw(0), judge);
            doc.yes("kin again", x.kin(judge, 0, true));
        }
    }

    private void noKin() {
        for (int v : ANY) {
            doc.is("judge " + v, Cases.withHome().kin(v, 0, true) ? 1 : 0, v >= 0 && v < 6 ? 1 : 0);
            doc.is("home " + v, Cases.withHome().kin(0, v, true) ? 1 : 0, v == 0 ? 1 : 0);
            doc.no("no more, judge " + v, Cases.withHome().kin(v, 0, false));
        }
    }

    private void kinAlready() {
        DepositJudge x = Cases.withHomes(2);
        doc.no("no kin at first", x.kin(3, 0, false));
        doc.yes("kin", x.kin(3, 0, true));
        doc.no("it is so", x.kin(3, 0, true));
        doc.yes("of another home", x.kin(3, 1, true));
        doc.yes("no more", x.kin(3, 0, false));
        doc.no("it is so", x.kin(3, 0, false));
    }

    private void seed() {
        DepositJudge x = Cases.withHome();
        for (int seed : new int[] {0, 1, 65535, 77}) {
            doc.yes("seed " + seed, x.seed(seed));
            doc.is("X", x.count(6), seed);
            doc.is("drawn", x.draw(0), (int) ((25173L * seed + 13849) % 65536 % 6));
        }
    }

    private void noSeed() {
        doc.range("seed", 0, 65535, seed -> new DepositJudge().seed(seed));
        DepositJudge x = new DepositJudge();
        x.seed(5);
        x.seed(-1);
        x.seed(65536);
        doc.is("X stays", x.count(6), 5);
    }

    private void draw() {
        DepositJudge x = Cases.withHome();
        int[] want = {4, 1, 0};
        for (int judge : want) {
            doc.is("drawn", x.draw(0), judge);
        }
        doc.is("X", x.count(6), 20196);
    }

    private void allKin() {
        DepositJudge x = Cases.withHome();
        for (int judge = 0; judge < 6; judge++) {
            doc.no("not all yet", x.draw(0) == -2);
            x.kin(judge, 0, true);
        }
        doc.is("all", x.draw(0), -2);
    }

    private void noHomeToDraw() {
        for (int v : ANY) {
            DepositJudge x = Cases.withHomes(2);
            doc.is("home " + v, x.draw(v), v == 0 || v == 1 ? 4 : -1);
            doc.is("X, home " + v, x.count(6), v == 0 || v == 1 ? 39022 : 1);
        }
    }

    private void twice() {
        DepositJudge x = new DepositJudge();
        for (int k = 1; k <= 40; k++) {
            doc.is("double", x.twice(k % 6, (k + 1) % 6, k, k), k);
            doc.is("count", x.count(4), k);
        }
    }

    private void noDouble() {
        for (int v : ANY) {
            boolean judge = v >= 0 && v < 6;
            doc.is("a " + v, new DepositJudge().twice(v, v == 0 ? 1 : 0, 1, 1), judge ? 1 : -1);
            doc.is("b " + v, new DepositJudge().twice(v == 0 ? 1 : 0, v, 1, 1), judge ? 1 : -1);
            doc.is("by a " + v, new DepositJudge().twice(0, 1, v, 1), v >= 0 && v <= 9999 ? 1 : -1);
            doc.is("by b " + v, new DepositJudge().twice(0, 1, 1, v), v >= 0 && v <= 9999 ? 1 : -1);
        }
    }

    private void oneTwice() {
        DepositJudge x = new DepositJudge();
        for (int judge = 0; judge < 6; judge++) {
            doc.is("judge " + judge, x.twice(judge, judge, 1, 1), -1);
        }
        doc.is("how many", x.count(4), 0);
    }

    private void fortyDoubles() {
        DepositJudge x = new DepositJudge();
        for (int k = 1; k <= 40; k++) {
            x.twice(0, 1, 1, 0);
        }
        doc.is("a 41st", x.twice(2, 3, 1, 0), -1);
        doc.is("how many", x.count(4), 40);
        doc.is("nothing of it", x.spread(2, 0), -1000000);
    }

    private void spread() {
        DepositJudge x = new DepositJudge();
        x.twice(0, 1, 5, 8);
        x.twice(2, 0, 1, 5);
        doc.is("above", x.spread(0, 0), 7);
        doc.is("below", x.spread(0, 1), 2);
    }

    private void leans() {
        DepositJudge x = new DepositJudge();
        x.twice(0, 1, 5, 8);
        doc.is("above", x.spread(0, 2), -3);
        doc.is("below", x.spread(0, 3), 1);
        doc.is("above", x.spread(1, 2), 3);
        x.twice(2, 0, 1, 5);
        doc.is("above", x.spread(0, 2), 1);
        doc.is("below", x.spread(0, 3), 2);
    }

    private void commonDivisor() {
        for (int many = 1; many <= 40; many++) {
            DepositJudge x = new DepositJudge();
            for (int k = 0; k < many; k++) {
                x.twice(0, 1, k == 0 ? 12 : 0, 0);
            }
            int common = java.math.BigInteger.valueOf(12).gcd(java.math.BigInteger.valueOf(many)).intValue();
            doc.is("spread above of " + many, x.spread(0, 0), 12 / common);
            doc.is("spread below of " + many, x.spread(0, 1), many / common);
            doc.is("leans above of " + many, x.spread(1, 2), -12 / common);
            doc.is("leans below of " + many, x.spread(1, 3), many / common);
        }
        DepositJudge x = new DepositJudge();
        x.twice(0, 1, 3, 3);
        x.twice(0, 1, 4, 4);
        doc.is("0 above", x.spread(0, 0), 0);
        doc.is("1 below it", x.spread(0, 1), 1);
    }

    private void noDoubles() {
        DepositJudge x = new DepositJudge();
        x.twice(0, 1, 3, 3);
        for (int judge = 0; judge < 6; judge++) {
            for (int what = 0; what < 4; what++) {
                doc.is("judge " + judge, x.spread(judge, what), judge > 1 ? -1000000 : what % 2);
            }
        }
    }

    private void noSpread() {
        DepositJudge x = new DepositJudge();
        for (int judge = 0; judge < 6; judge++) {
            x.twice(judge, (judge + 1) % 6, 3, 3);
        }
        for (int v : ANY) {
            doc.is("judge " + v, x.spread(v, 0), v >= 0 && v < 6 ? 0 : -1000000);
            doc.is("what " + v, x.spread(0, v), v >= 0 && v < 4 ? v % 2 : -1000000);
        }
    }

    private void like() {
        DepositJudge x = Cases.withHomes(3);
        x.first(0, 0, 0, 5, 0);
        x.first(1, 0, 0, 5, 0);
        x.first(1, 0, 1, 5, 0);
        doc.is("which", x.like(0, 0), 1);
        doc.is("the distance", x.like(0, 1), 10);
        doc.is("which", x.like(2, 0), 0);
        doc.is("the distance", x.like(2, 1), 10);
    }

    private void noOther() {
        DepositJudge x = Cases.withHomes(1);
        doc.is("which", x.like(0, 0), -2);
        doc.is("the distance", x.like(0, 1), -2);
        x.home(0, 1, 0, 0, 0, true);
        doc.is("which", x.like(0, 0), 1);
    }

    private void noneLike() {
        for (int v : ANY) {
            DepositJudge x = Cases.withHomes(2);
            doc.is("home " + v, x.like(v, 1), v == 0 || v == 1 ? 0 : -1);
            doc.is("what " + v, x.like(1, v), v == 0 || v == 1 ? 0 : -1);
            doc.is("what " + v + ", no other one", Cases.withHomes(1).like(0, v), v == 0 || v == 1 ? -2 : -1);
            doc.is("home " + v + ", none at all", new DepositJudge().like(v, 0), -1);
        }
    }

    private void fact() {
        DepositJudge x = new DepositJudge();
        x.fact(10, 3, 20);
        x.fact(3, 4, 5);
        doc.is("b behind a", x.dated(4, 0), 25);
        doc.is("a ahead of b", x.dated(3, 0), 20);
        for (int a = 0; a <= 10; a++) {
            for (int b = 0; b <= 10; b++) {
                doc.is("fact " + a + " " + b, new DepositJudge().fact(a, b, 0), a == b ? -1 : 1);
            }
        }
    }

    private void howManyFacts() {
        DepositJudge x = new DepositJudge();
        for (int k = 1; k <= 30; k++) {
            doc.is("fact", x.fact(k % 2, 1 - k % 2, 1), k);
            doc.is("count", x.count(5), k);
        }
    }

    private void noFact() {
        for (int v : ANY) {
            boolean picture = v >= 0 && v <= 10;
            doc.is("a " + v, new DepositJudge().fact(v, v == 0 ? 1 : 0, 1), picture ? 1 : -1);
            doc.is("b " + v, new DepositJudge().fact(v == 0 ? 1 : 0, v, 1), picture ? 1 : -1);
            doc.is("days " + v, new DepositJudge().fact(0, 1, v), v >= -999 && v <= 999 ? 1 : -1);
        }
    }

    private void onePictureTwice() {
        DepositJudge x = new DepositJudge();
        for (int picture = 0; picture <= 10; picture++) {
            doc.is("picture " + picture, x.fact(picture, picture, -1), -1);
        }
        doc.is("how many", x.count(5), 0);
        doc.is("one fact told again is another one", x.fact(0, 1, 1) + x.fact(0, 1, 1), 3);
    }

    private void thirtyFacts() {
        DepositJudge x = new DepositJudge();
        for (int k = 1; k <= 30; k++) {
            x.fact(10, 0, 1);
        }
        doc.is("a 31st", x.fact(10, 0, 2), -1);
        doc.is("how many", x.count(5), 30);
        doc.is("nothing of it", x.dated(0, 0), 1);
        doc.is("a 31st that can't be", x.fact(0, 10, 99), -1);
        doc.is("nothing of it", x.wrong(-1), 0);
    }

    private void dated() {
        DepositJudge x = new DepositJudge();
        x.fact(10, 0, 5);
        x.fact(0, 10, -9);
        doc.is("the earliest", x.dated(0, 0), 5);
        doc.is("the latest", x.dated(0, 1), 9);
    }

    private void noBound() {
        DepositJudge x = new DepositJudge();
        x.fact(10, 0, 5);
        x.fact(1, 10, 5);
        x.fact(2, 3, 5);
        doc.is("no latest", x.dated(0, 1), -100000);
        doc.is("no earliest", x.dated(1, 0), -100000);
        doc.is("an earliest", x.dated(0, 0), 5);
        doc.is("a latest", x.dated(1, 1), -5);
        for (int picture = 2; picture < 10; picture++) {
            doc.is("no earliest of " + picture, x.dated(picture, 0), -100000);
            doc.is("no latest of " + picture, x.dated(picture, 1), -100000);
        }
    }

    private void noPicture() {
        DepositJudge x = new DepositJudge();
        for (int picture = 0; picture < 10; picture++) {
            x.fact(10, picture, 0);
            x.fact(picture, 10, 0);
        }
        for (int v : ANY) {
            doc.is("picture " + v, x.dated(v, 0), v >= 0 && v < 10 ? 0 : -100000);
            doc.is("what " + v, x.dated(0, v), v == 0 || v == 1 ? 0 : -100000);
        }
    }

    private void howManyWrong() {
        DepositJudge x = new DepositJudge();
        doc.is("none", x.wrong(-1), 0);
        x.fact(0, 1, 1);
        for (int k = 1; k <= 29; k++) {
            x.fact(1, 0, 0);
            doc.is("so many", x.wrong(-1), k);
        }
    }

    private void whichWrong() {
        DepositJudge x = new DepositJudge();
        x.fact(0, 1, 1);
        x.fact(1, 0, 0);
        x.fact(1, 2, 1);
        x.fact(2, 0, -1);
        x.fact(2, 0, -2);
        x.fact(2, 1, 999);
        int[] want = {1, 3, 5};
        for (int k = 0; k < want.length; k++) {
            doc.is("wrong " + k, x.wrong(k), want[k]);
        }
    }

    private void noneWrong() {
        DepositJudge x = new DepositJudge();
        doc.is("none", x.wrong(0), -1);
        x.fact(0, 1, 1);
        x.fact(1, 0, 0);
        for (int v : ANY) {
            doc.is("wrong " + v, x.wrong(v), v == -1 ? 1 : v == 0 ? 1 : -1);
        }
    }

    private void keep() {
        DepositJudge x = Cases.court();
        for (int c = 0; c < 4; c++) {
            doc.is("keep", x.keep(), c);
            x.claim(0, c, 0, 0, 0);
        }
        doc.is("keep", x.keep(), 4);
        DepositJudge y = Cases.withHomes(6);
        for (int c = 0; c < 30; c++) {
            y.first(c % 6, 0, 0, 5, 0);
            y.claim(c % 6, c / 6, 0, 0, 0);
        }
        doc.is("keep of all there may be", y.keep(), 30);
        doc.yes("undo of all there may be", y.undo());
        doc.is("claims", y.count(1), 30);
        doc.is("the last", y.count(59), 5);
    }

    private void undo() {
        DepositJudge x = Cases.court();
        x.keep();
        doc.yes("undo", x.undo());
        x.claim(0, 0, 0, 0, 0);
        doc.yes("undo again", x.undo());
        doc.is("claims", x.count(1), 0);
    }

    private void nothingKept() {
        DepositJudge x = Cases.claimed(0, 0);
        doc.no("undo", x.undo());
        doc.is("claims", x.count(1), 1);
    }

    private void counts() {
        DepositJudge x = Cases.withHomes(2);
        x.first(0, 0, 0, 5, 0);
        x.first(0, 0, 0, 5, 0);
        x.first(0, 0, 0, 5, 0);
        for (int c = 0; c < 3; c++) {
            x.claim(0, c, 0, 0, 0);
        }
        Due.law(x, "b(1=1);b(1=1);b(1=1);b(1=1)");
        x.feed(0, 0, 0, 0, 0);
        for (int k = 0; k < 5; k++) {
            x.twice(0, 1, 1, 1);
        }
        for (int k = 0; k < 6; k++) {
            x.fact(0, 1, 1);
        }
        x.seed(7);
        int[] want = {2, 3, 4, 20, 5, 6, 7};
        for (int what = 0; what < want.length; what++) {
            doc.is("count " + what, x.count(what), want[what]);
        }
    }

    private void countsOfHomes() {
        DepositJudge x = Cases.withHomes(6);
        for (int h = 0; h < 6; h++) {
            for (int k = 0; k < h; k++) {
                x.first(h, 0, 0, 5, 0);
                x.last(5 - h, 0, 0, 5);
            }
        }
        for (int h = 0; h < 6; h++) {
            doc.is("first list of " + h, x.count(10 + h), h);
            doc.is("last list of " + h, x.count(20 + h), 5 - h);
        }
    }

    private void homesOfClaims() {
        DepositJudge x = Cases.withHomes(6);
        for (int c = 0; c < 30; c++) {
            x.first(c % 6, 0, 0, 5, 0);
            x.claim(c % 6, c / 6, 0, 0, 0);
        }
        for (int c = 0; c < 30; c++) {
            doc.is("home of claim " + c, x.count(30 + c), c % 6);
        }
    }

    private void noCount() {
        DepositJudge x = Cases.withHomes(6);
        for (int c = 0; c < 30; c++) {
            x.first(c % 6, 0, 0, 5, 0);
            x.claim(c % 6, c / 6, 0, 0, 0);
        }
        for (int what = -70; what < 130; what++) {
            boolean is = what >= 0 && what <= 6 || what >= 10 && what <= 15 || what >= 20 && what <= 25 || what >= 30 && what < 60;
            doc.is("count " + what, x.count(what) == -1 ? 0 : 1, is ? 1 : 0);
        }
        doc.is("the least", x.count(Integer.MIN_VALUE), -1);
        doc.is("the greatest", x.count(Integer.MAX_VALUE), -1);
        DepositJudge y = Cases.withHomes(2);
        doc.is("first list of a third home", y.count(12), -1);
        doc.is("last list of a third home", y.count(22), -1);
        doc.is("home of a first claim", y.count(30), -1);
    }
}
