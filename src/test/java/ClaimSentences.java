/** The sentences of the terms about claims, awards and what is judged. */
final class ClaimSentences {
    private final Sentences doc;

    ClaimSentences(Sentences doc) {
        this.doc = doc;
    }

    void run() {
        claims();
        awards();
        judged();
    }

    private void claims() {
        doc.term("CLAIMS 0 to 29,", this::thirty);
        doc.term("of the owner of a HOME for a THING of its FIRST LIST", this::ofItsFirstList);
        doc.term("(each once):", this::eachOnce);
        doc.term("a CAUSE (0 to 9),", this::causes);
        doc.term("EVIDENCE (bits: 1 the first list was signed, 2 a picture, 4 a bill),", this::evidences);
        doc.term("the DAY it was made (0 to 9999).", this::days);
        doc.term("AGREED by the TENANTS are so many pence of it", this::agreed);
        doc.term("(0 at first);", this::agreedAtFirst);
        doc.term("an ANSWER on a DAY, with PROOF against it or without;", this::answers);
        doc.term("none at first. ", this::noneAtFirst);
    }

    private void awards() {
        doc.term("LOST by a CLAIM: STATES below what fair wear leaves", this::statesBelow);
        doc.term("(STATE at first less f, not below 0):", this::notBelow0);
        doc.term("WORTH (AGED) times these, through its STATE at first, rounded down.", this::lost);
        doc.term("AWARD on a DAY (not ahead of the CLAIM's):", this::notAhead);
        doc.term("if nothing is LOST: 0 (REASON 1);", this::nothingLost);
        doc.term("else if AGREED is as much as LOST or more: LOST (REASON 2);", this::agreedAll);
        doc.term("else, if no ANSWER was made by that DAY:", this::noAnswerByThatDay);
        doc.term("more than d days since the CLAIM: LOST (3),", this::moreThanDays);
        doc.term("else AGREED (4);", this::notYet);
        doc.term("else, if the TENANTS must prove: without PROOF LOST times p, through 100, rounded down,", this::withoutProof);
        doc.term("not less than AGREED (5),", this::notLessThanAgreed);
        doc.term("with it AGREED (6);", this::withProof);
        doc.term("else, if EVIDENCE has 1 and one of the others: likewise LOST times p (7),", this::ownerProves);
        doc.term("else AGREED (8).", this::ownerProvesNot);
    }

    private void judged() {
        doc.term("JUDGED is a HOME on a DAY: AWARDS of its CLAIMS (made by then),", this::madeByThen);
        doc.term("RENT, BILLS, KEYS together: TO THE OWNER as much,", this::together);
        doc.term("but not more than the DEPOSIT;", this::notMoreThanDeposit);
        doc.term("BACK the rest;", this::back);
        doc.term("PENALTY (if it was not KEPT): t times the DEPOSIT,", this::penalty);
        doc.term("BACK as well, of the owner's own.", this::backAsWell);
        doc.term("Each TENANT gets BACK by PARTS: what comes rounded down;", this::byParts);
        doc.term("of what is left over a penny each to those whose rest is greatest,", this::leftOver);
        doc.term("of like ones the lowest (all", this::lowestOfLikeOnes);
        doc.term("(all PARTS 0: as if all were 1).", this::allPartsNothing);
    }

    /** Two homes with twenty things each, worth 1000, gone. */
    private static DepositJudge fortyThings() {
        DepositJudge x = new DepositJudge();
        x.price(0, 0, 1000);
        for (int h = 0; h < 2; h++) {
            x.home(0, 1, 999999, 0, 0, true);
            for (int i = 0; i < 20; i++) {
                x.first(h, 0, 0, 5, 0);
            }
        }
        return x;
    }

    private void thirty() {
        DepositJudge x = fortyThings();
        for (int c = 0; c < 30; c++) {
            doc.no("count of a claim before it is there", x.count(30 + c) >= 0);
            doc.is("claim", x.claim(c % 2, c / 2, 0, 0, 0), c);
        }
        doc.is("a 31st", x.claim(1, 17, 0, 0, 0), -1);
        doc.is("how many", x.count(1), 30);
        doc.range("agree, claim", 0, 29, c -> x.agree(c, 1));
        doc.range("answer, claim", 0, 29, c -> x.answer(c, 0, true));
        doc.range("award, claim", 0, 29, c -> x.award(c, 0, 0) == 1);
        doc.is("the home of the last", x.count(59), 1);
        doc.is("no home of a 31st", x.count(60), -1);
    }

    private void ofItsFirstList() {
        DepositJudge x = Cases.withHomes(2);
        x.first(0, 0, 0, 5, 0);
        x.last(0, 0, 0, 4);
        x.last(0, 0, 0, 4);
        doc.is("one of the last list alone", x.claim(0, 1, 0, 0, 0), -1);
        doc.is("a home without any", x.claim(1, 0, 0, 0, 0), -1);
        doc.is("one of the first list", x.claim(0, 0, 0, 0, 0), 0);
        doc.is("its home", x.count(30), 0);
    }

    private void eachOnce() {
        DepositJudge x = fortyThings();
        doc.is("the first time", x.claim(0, 3, 0, 0, 0), 0);
        doc.is("the second time", x.claim(0, 3, 0, 0, 0), -2);
        doc.is("with another cause", x.claim(0, 3, 9, 7, 99), -2);
        doc.is("a like number of another home", x.claim(1, 3, 0, 0, 0), 1);
        doc.is("another thing", x.claim(0, 4, 0, 0, 0), 2);
        doc.is("the first once more", x.claim(0, 3, 0, 0, 0), -2);
        doc.is("how many", x.count(1), 3);
    }

    private void causes() {
        doc.range("claim, cause", 0, 9, cause -> Cases.court().claim(0, 0, cause, 0, 0) == 0);
        for (int cause = 0; cause < 10; cause++) {
            DepositJudge x = Cases.claimed(cause, 0);
            Due.law(x, "d99(!c=" + cause + ");d0(1=1)");
            doc.is("cause " + cause, x.award(0, 11, 1), 3);
        }
    }

    private void evidences() {
        doc.range("claim, evidence", 0, 7, evidence -> Cases.court().claim(0, 0, 0, evidence, 0) == 0);
        for (int evidence = 0; evidence < 8; evidence++) {
            DepositJudge x = Cases.claimed(0, evidence);
            x.answer(0, 10, true);
            boolean signed = evidence % 2 == 1;
            doc.is("evidence " + evidence, x.award(0, 10, 1), signed && evidence > 1 ? 7 : 8);
        }
    }

    private void days() {
        doc.range("claim, day", 0, 9999, day -> Cases.court().claim(0, 0, 0, 0, day) == 0);
        DepositJudge x = Cases.court();
        x.claim(0, 0, 0, 0, 9999);
        x.claim(0, 1, 0, 0, 0);
        doc.is("a day before the last", x.award(0, 9998, 0), -2);
        doc.is("on the last day", x.award(0, 9999, 0), 0);
        doc.is("on the first day", x.award(1, 0, 0), 0);
        doc.range("award, day", 0, 9999, day -> x.award(1, day, 1) >= 3);
        doc.range("answer, day", 0, 9999, day -> x.answer(1, day, true));
        doc.range("judged, day", 0, 9999, day -> x.judged(0, day, 2) == 0);
        doc.range("byKind, day", 0, 9999, day -> x.byKind(1, day) == 0);
        doc.range("check, day", 0, 9999, day -> x.check(0, day, 0) == 0);
    }

    private void award(String name, DepositJudge x, int day, int pence, int reason) {
        doc.is(name + ", day " + day + ", pence", x.award(0, day, 0), pence);
        doc.is(name + ", day " + day + ", reason", x.award(0, day, 1), reason);
    }

    private void agreed() {
        doc.range("agree, pence", 0, 999999, pence -> Cases.claimed(0, 0).agree(0, pence));
        DepositJudge x = Cases.claimed(0, 0);
        x.agree(0, 123);
        award("agreed", x, 10, 123, 4);
        x.agree(0, 5);
        award("less agreed", x, 10, 5, 4);
        x.agree(0, 999999);
        award("all agreed", x, 10, 1000, 2);
    }

    private void agreedAtFirst() {
        award("not answered", Cases.claimed(0, 0), 10, 0, 4);
        DepositJudge x = Cases.claimed(0, 0);
        x.answer(0, 10, true);
        award("answered", x, 10, 0, 8);
        DepositJudge y = Cases.court();
        y.keep();
        y.claim(0, 0, 0, 0, 10);
        y.agree(0, 500);
        y.undo();
        y.claim(0, 1, 0, 0, 10);
        award("in the place of one that was undone", y, 10, 0, 4);
    }

    private void answers() {
        DepositJudge x = Cases.claimed(0, 0);
        Due.law(x, "b(1=1)");
        doc.yes("answer", x.answer(0, 12, true));
        award("ahead of it", x, 11, 0, 4);
        award("with proof", x, 12, 0, 6);
        doc.yes("answer", x.answer(0, 13, false));
        award("ahead of it", x, 12, 0, 4);
        award("without proof", x, 13, 1000, 5);
    }

    private void noneAtFirst() {
        DepositJudge x = Cases.claimed(0, 7);
        for (int day : new int[] {10, 11, 500, 1009}) {
            award("no answer", x, day, 0, 4);
        }
        award("silent too long", x, 1010, 1000, 3);
    }

    /** What is lost of a thing worth 9000, by its states and a fair wear. */
    private static int lost(int before, int after, int wear) {
        DepositJudge x = Cases.withHome();
        x.price(0, 0, 9000);
        x.first(0, 0, 0, before, 0);
        if (after > 0) {
            x.last(0, 0, 0, after);
        }
        Due.law(x, "f" + wear + "(1=1)");
        return x.thing(0, 0, 4);
    }

    private void statesBelow() {
        doc.is("9 to 6, no wear", lost(9, 6, 0), 3000);
        doc.is("9 to 6, wear 2", lost(9, 6, 2), 1000);
        doc.is("9 to 6, wear 3", lost(9, 6, 3), 0);
        doc.is("9 to 6, wear 4", lost(9, 6, 4), 0);
        doc.is("3 to 9, no wear", lost(3, 9, 0), 0);
        doc.is("9 to nothing, no wear", lost(9, 0, 0), 9000);
        doc.is("9 to nothing, wear 1", lost(9, 0, 1), 8000);
        doc.is("9 to nothing, wear 8", lost(9, 0, 8), 1000);
        for (int before = 1; before <= 9; before++) {
            for (int after = 0; after <= 9; after++) {
                for (int wear = 0; wear <= 9; wear++) {
                    int below = Math.max(0, Math.max(0, before - wear) - after);
                    doc.is(before + " to " + after + ", wear " + wear, lost(before, after, wear), 9000 * below / before);
                }
            }
        }
    }

    private void notBelow0() {
        doc.is("3 to nothing, wear 3", lost(3, 0, 3), 0);
        doc.is("3 to nothing, wear 4", lost(3, 0, 4), 0);
        doc.is("1 to nothing, wear 9", lost(1, 0, 9), 0);
        doc.is("1 to 9, wear 9", lost(1, 9, 9), 0);
    }

    private void lost() {
        DepositJudge x = Cases.lettered();
        doc.is("four of six states of 3500", x.thing(0, 0, 4), 2333);
        Due.law(x, "f1(1=1)");
        doc.is("three of six", x.thing(0, 0, 4), 1750);
        DepositJudge y = Cases.withHome();
        y.price(0, 0, 99999);
        y.first(0, 0, 0, 9, 0);
        doc.is("nine of nine of the dearest", y.thing(0, 0, 4), 99999);
        y.last(0, 0, 0, 1);
        doc.is("eight of nine of the dearest", y.thing(0, 0, 4), 88888);
        y.price(0, 0, 10);
        doc.is("eight of nine of 10", y.thing(0, 0, 4), 8);
        y.price(0, 0, 1);
        doc.is("eight of nine of 1", y.thing(0, 0, 4), 0);
        x.claim(0, 0, 0, 0, 0);
        doc.is("lost by a claim", x.award(0, 1000, 0), 1750);
    }

    private void notAhead() {
        DepositJudge x = Cases.claimed(0, 0);
        doc.is("a day ahead, pence", x.award(0, 9, 0), -2);
        doc.is("a day ahead, reason", x.award(0, 9, 1), -2);
        doc.is("far ahead", x.award(0, 0, 0), -2);
        x.agree(0, 30);
        award("on its day", x, 10, 30, 4);
    }

    private void nothingLost() {
        DepositJudge x = Cases.claimed(0, 7);
        x.last(0, 0, 0, 5);
        award("as it was", x, 10, 0, 1);
        x.agree(0, 50);
        award("though agreed", x, 10, 0, 1);
        award("though silent", x, 9999, 0, 1);
        x.answer(0, 10, false);
        award("though answered", x, 10, 0, 1);
        DepositJudge y = Cases.claimed(0, 7);
        y.life(0, 1);
        award("worth all of it", y, 9999, 1000, 3);
        y.price(0, 0, 0);
        award("worth nothing", y, 9999, 0, 1);
        DepositJudge z = Cases.claimed(0, 7);
        z.last(0, 0, 0, 4);
        z.price(0, 0, 4);
        award("a fifth of 4", z, 9999, 0, 1);
        z.price(0, 0, 5);
        award("a fifth of 5", z, 9999, 1, 3);
    }

    private void agreedAll() {
        DepositJudge x = Cases.claimed(0, 7);
        x.agree(0, 999);
        award("a penny less", x, 10, 999, 4);
        x.agree(0, 1000);
        award("as much", x, 10, 1000, 2);
        x.agree(0, 1001);
        award("more", x, 10, 1000, 2);
        x.agree(0, 999999);
        award("far more", x, 9999, 1000, 2);
        x.answer(0, 10, true);
        award("though answered", x, 10, 1000, 2);
    }

    private void noAnswerByThatDay() {
        DepositJudge x = Cases.claimed(0, 7);
        x.answer(0, 20, false);
        award("the day before", x, 19, 0, 4);
        award("that day", x, 20, 1000, 7);
        award("the day behind", x, 21, 1000, 7);
        Due.law(x, "d5(1=1)");
        award("silent till then", x, 19, 1000, 3);
        award("that day", x, 20, 1000, 7);
    }

    private void moreThanDays() {
        DepositJudge x = Cases.claimed(0, 0);
        x.agree(0, 7);
        Due.law(x, "d5(1=1)");
        award("five days", x, 15, 7, 4);
        award("six days", x, 16, 1000, 3);
        Due.law(x, "d0(1=1)");
        award("the same day", x, 10, 7, 4);
        award("a day", x, 11, 1000, 3);
    }

    private void notYet() {
        DepositJudge x = Cases.claimed(0, 0);
        award("nothing agreed", x, 1009, 0, 4);
        x.agree(0, 999);
        award("some agreed", x, 1009, 999, 4);
    }

    private void withoutProof() {
        DepositJudge x = Cases.claimed(0, 0);
        x.answer(0, 10, false);
        Due.law(x, "b(1=1)");
        award("all hundredths", x, 10, 1000, 5);
        Due.law(x, "b(1=1);p33(1=1)");
        award("33 of 1000", x, 10, 330, 5);
        x.price(0, 0, 999);
        award("33 of 999", x, 10, 329, 5);
        x.price(0, 0, 3);
        award("33 of 3", x, 10, 0, 5);
        x.price(0, 0, 99999);
        Due.law(x, "b(1=1);p99(1=1)");
        award("99 of the dearest", x, 10, 98999, 5);
    }

    private void notLessThanAgreed() {
        DepositJudge x = Cases.claimed(0, 0);
        x.answer(0, 10, false);
        Due.law(x, "b(1=1);p30(1=1)");
        x.agree(0, 299);
        award("agreed less", x, 10, 300, 5);
        x.agree(0, 300);
        award("agreed as much", x, 10, 300, 5);
        x.agree(0, 301);
        award("agreed more", x, 10, 301, 5);
    }

    private void withProof() {
        DepositJudge x = Cases.claimed(0, 7);
        x.answer(0, 10, true);
        Due.law(x, "b(1=1);p30(1=1)");
        award("nothing agreed", x, 10, 0, 6);
        x.agree(0, 45);
        award("some agreed", x, 10, 45, 6);
    }

    private void ownerProves() {
        for (int evidence : new int[] {3, 5, 7}) {
            for (boolean proof : new boolean[] {false, true}) {
                DepositJudge x = Cases.claimed(0, evidence);
                x.answer(0, 10, proof);
                award("all hundredths, evidence " + evidence, x, 10, 1000, 7);
                Due.law(x, "p33(1=1);b(1=2)");
                x.price(0, 0, 999);
                award("33 of 999, evidence " + evidence, x, 10, 329, 7);
                x.agree(0, 330);
                award("not less than agreed, evidence " + evidence, x, 10, 330, 7);
            }
        }
    }

    private void ownerProvesNot() {
        for (int evidence : new int[] {0, 1, 2, 4, 6}) {
            for (boolean proof : new boolean[] {false, true}) {
                DepositJudge x = Cases.claimed(0, evidence);
                x.answer(0, 10, proof);
                award("nothing agreed, evidence " + evidence, x, 10, 0, 8);
                x.agree(0, 999);
                award("some agreed, evidence " + evidence, x, 10, 999, 8);
            }
        }
    }

    private void madeByThen() {
        DepositJudge x = fortyThings();
        x.claim(0, 0, 0, 0, 3);
        x.claim(0, 1, 0, 0, 5);
        x.claim(1, 0, 0, 0, 0);
        x.agree(0, 10);
        x.agree(1, 200);
        x.agree(2, 999);
        doc.is("day 2", x.judged(0, 2, 3), 0);
        doc.is("day 3", x.judged(0, 3, 3), 10);
        doc.is("day 4", x.judged(0, 4, 3), 10);
        doc.is("day 5", x.judged(0, 5, 3), 210);
        doc.is("another home's", x.judged(1, 0, 3), 999);
        doc.is("silent too long on that day", x.judged(0, 1003, 3), 1200);
    }

    private void together() {
        DepositJudge x = fortyThings();
        x.claim(0, 0, 0, 0, 0);
        x.agree(0, 7);
        doc.is("awards", x.judged(0, 0, 0), 7);
        x.owes(0, 0, 10);
        doc.is("and rent", x.judged(0, 0, 0), 17);
        x.owes(0, 1, 200);
        doc.is("and bills", x.judged(0, 0, 0), 217);
        x.owes(0, 2, 3000);
        doc.is("and keys", x.judged(0, 0, 0), 3217);
        doc.is("awards alone", x.judged(0, 0, 3), 7);
    }

    private void notMoreThanDeposit() {
        DepositJudge x = Cases.claimed(0, 0);
        x.agree(0, 1000);
        x.owes(0, 0, 3999);
        doc.is("a penny less", x.judged(0, 10, 0), 4999);
        x.owes(0, 0, 4000);
        doc.is("as much", x.judged(0, 10, 0), 5000);
        x.owes(0, 0, 4001);
        doc.is("a penny more", x.judged(0, 10, 0), 5000);
        for (int what = 0; what < 3; what++) {
            x.owes(0, what, 999999);
        }
        doc.is("far more", x.judged(0, 10, 0), 5000);
        doc.is("awards are told whole", x.judged(0, 10, 3), 1000);
    }

    private void back() {
        DepositJudge x = Cases.claimed(0, 0);
        doc.is("all", x.judged(0, 10, 1), 5000);
        x.agree(0, 1000);
        doc.is("less an award", x.judged(0, 10, 1), 4000);
        x.owes(0, 0, 3999);
        doc.is("a penny", x.judged(0, 10, 1), 1);
        x.owes(0, 0, 4000);
        doc.is("nothing", x.judged(0, 10, 1), 0);
        x.owes(0, 0, 999999);
        doc.is("not below nothing", x.judged(0, 10, 1), 0);
    }

    private void penalty() {
        for (int t = 0; t <= 9; t++) {
            DepositJudge x = new DepositJudge();
            x.home(0, 1, 999999, 0, 0, false);
            x.home(0, 1, 999999, 0, 0, true);
            x.home(0, 1, 0, 0, 0, false);
            Due.law(x, "t" + t + "(1=1)");
            doc.is("not kept", x.judged(0, 0, 2), 999999 * t);
            doc.is("kept", x.judged(1, 0, 2), 0);
            doc.is("of no deposit", x.judged(2, 0, 2), 0);
        }
    }

    private void backAsWell() {
        DepositJudge x = new DepositJudge();
        x.home(0, 1, 500, 0, 0, false);
        Due.law(x, "t3(1=1)");
        x.owes(0, 0, 200);
        doc.is("to the owner", x.judged(0, 0, 0), 200);
        doc.is("back without it", x.judged(0, 0, 1), 300);
        doc.is("back with it", x.judged(0, 0, 10), 1800);
        x.owes(0, 0, 999999);
        doc.is("to the owner not more", x.judged(0, 0, 0), 500);
        doc.is("back with it still", x.judged(0, 0, 10), 1500);
    }

    private void shares(int pence, int[] parts, int... want) {
        DepositJudge x = new DepositJudge();
        x.home(0, parts.length, pence, 0, 0, true);
        for (int t = 0; t < parts.length; t++) {
            x.part(0, t, parts[t]);
        }
        for (int t = 0; t < want.length; t++) {
            doc.is(pence + " to tenant " + t + " of " + java.util.Arrays.toString(parts), x.judged(0, 0, 10 + t), want[t]);
        }
    }

    private void byParts() {
        shares(100, new int[] {1, 1, 1, 1}, 25, 25, 25, 25);
        shares(100, new int[] {1, 3}, 25, 75);
        shares(100, new int[] {10, 20, 30, 40}, 10, 20, 30, 40);
        shares(10, new int[] {1, 2, 4}, 1, 3, 6);
        shares(777, new int[] {5}, 777);
        shares(0, new int[] {3, 1}, 0, 0);
        DepositJudge x = new DepositJudge();
        x.home(0, 4, 999999, 0, 0, false);
        Due.law(x, "t9(1=1)");
        x.part(0, 0, 99);
        doc.is("99 parts of 102 of the most", x.judged(0, 0, 10), 9705873);
        doc.is("1 part", x.judged(0, 0, 11), 98039);
        doc.is("1 part", x.judged(0, 0, 12), 98039);
        doc.is("1 part", x.judged(0, 0, 13), 98039);
    }

    private void leftOver() {
        shares(11, new int[] {1, 1, 5}, 2, 1, 8);
        shares(10, new int[] {1, 1, 5}, 2, 1, 7);
        shares(5, new int[] {4, 5}, 2, 3);
        shares(1, new int[] {49, 99}, 0, 1);
        shares(2, new int[] {1, 2, 3, 4}, 0, 0, 1, 1);
        shares(7, new int[] {2, 3, 4, 5}, 1, 2, 2, 2);
        shares(1, new int[] {0, 0, 1, 2}, 0, 0, 0, 1);
        DepositJudge x = new DepositJudge();
        x.home(0, 4, 1, 0, 0, true);
        x.home(0, 2, 1, 0, 0, true);
        for (int t = 0; t < 4; t++) {
            x.part(0, t, 99);
        }
        doc.is("a home of four", x.judged(0, 0, 10), 1);
        doc.is("a home of two behind it", x.judged(1, 0, 10), 1);
        doc.is("a home of two behind it", x.judged(1, 0, 11), 0);
    }

    private void lowestOfLikeOnes() {
        shares(101, new int[] {1, 1, 1, 1}, 26, 25, 25, 25);
        shares(102, new int[] {1, 1, 1, 1}, 26, 26, 25, 25);
        shares(103, new int[] {1, 1, 1, 1}, 26, 26, 26, 25);
        shares(1, new int[] {5, 5}, 1, 0);
        shares(1, new int[] {0, 5, 5}, 0, 1, 0);
        shares(6, new int[] {1, 3, 1, 3}, 1, 2, 1, 2);
        shares(3, new int[] {2, 1, 2, 1}, 1, 1, 1, 0);
    }

    private void allPartsNothing() {
        shares(11, new int[] {0, 0, 0}, 4, 4, 3);
        shares(10, new int[] {0, 0, 0, 0}, 3, 3, 2, 2);
        shares(7, new int[] {0}, 7);
        shares(10, new int[] {0, 0, 0, 1}, 0, 0, 0, 10);
        shares(999999, new int[] {0, 0}, 500000, 499999);
    }
}
