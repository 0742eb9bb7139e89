/**
 * What the terms of the document say of text, sheets, marks, the list and carrying out: each sentence
 * that names a boundary, at the last value that is allowed and at the first one that is not.
 */
public final class TermsLimitsTest {
    private static final int INVALID = -1;
    private static final int NOT_POSSIBLE = -2;
    private static final int LIMIT = -3;
    private static final int NOT_FOUND = -4;
    private static final int OUT_OF_RANGE = 3;
    private static final int LIKE = 4;
    private static final int NO_ROOM = 5;
    private static final String EIGHT = "cap 0;cap 1;cap 2;cap 3;cap 4;cap 5;cap 6;cap 7;";

    public static void main(String[] args) {
        textOfAtMost100Characters();
        codesFrom32To126();
        textIsInitiallyEmpty();
        roundIsInitially0();
        usedFor512Calls();
        readers0To5();
        atMost8Sheets();
        atMost8SheetsWhateverBecomesOfThem();
        sheetIsOutAtFirst();
        atMostOneSheetOut();
        rangeOfDel();
        rangeOfIns();
        rangeOfRepCapAsk();
        rangeOfSwap();
        rangesInTheLongestText();
        rangesInTheShortestText();
        rangesInAnEmptyText();
        rangesFollowTheTextOfTheRound();
        noLetterStays();
        atMost8Marks();
        noTwoMarksLike();
        sheetsThatAreNotOutGetNoMarks();
        likeMarks();
        marksThatCoverAPositionTogether();
        insInsideOfAnother();
        twoIns();
        askStandsAgainstNone();
        likeMarksDoNotStandAgainst();
        marksGoIntoTheListInTheirOrder();
        longestList();
        answeredOnce();
        notAcceptedAgainstAnAcceptedOne();
        askIsAnsweredLikewise();
        answerStays();
        lostSheetIsNotMerged();
        lostSheetIsFoundInItsRound();
        roundThatCanBeFinished();
        nextRoundBeginsEmpty();
        lostForGood();
        carriedOutAtTheEnds();
        cutTo100();
        accountsOfAnEmptyRound();
        accountsOfEachMark();
        Checks.end("TermsLimitsTest");
    }

    // ---- text, sheets

    private static void textOfAtMost100Characters() {
        Checks.sentence("There is a text of at most 100 characters");
        ProofSheets x = Checks.withText(Checks.repeated('x', 99));
        Checks.due("the 100th character", x.put('y'), 100);
        Checks.due("the 101st character", x.put('z'), LIMIT);
        Checks.due("count(0)", x.count(0), 100);
        Checks.due("at(98)", x.at(98), 'x');
        Checks.due("at(99)", x.at(99), 'y');
        Checks.due("at(100)", x.at(100), NOT_FOUND);
    }

    private static void codesFrom32To126() {
        Checks.sentence("characters with codes from 32 to 126");
        ProofSheets x = new ProofSheets();
        Checks.due("put(32)", x.put(32), 1);
        Checks.due("put(31)", x.put(31), INVALID);
        Checks.due("put(126)", x.put(126), 2);
        Checks.due("put(127)", x.put(127), INVALID);
        Checks.due("put of a code that fits when it is cut to 8 bits", x.put(256 + 'a'), INVALID);
        Checks.due("put of a code that fits when it is cut to 16 bits", x.put(65536 + 'a'), INVALID);
        Checks.text("codes", x, " ~");
    }

    private static void textIsInitiallyEmpty() {
        Checks.sentence("initially empty; its characters have the positions 0, 1, 2, and so on");
        ProofSheets x = new ProofSheets();
        Checks.due("count(0)", x.count(0), 0);
        Checks.due("at(0)", x.at(0), NOT_FOUND);
        x.put('a');
        Checks.due("at(0)", x.at(0), 'a');
        Checks.due("at(1)", x.at(1), NOT_FOUND);
        x.put('b');
        x.put('c');
        Checks.text("three characters", x, "abc");
    }

    private static void roundIsInitially0() {
        Checks.sentence("The round is initially 0: the text is being set; then it is 1, 2, and so on.");
        ProofSheets x = new ProofSheets();
        Checks.due("count(1)", x.count(1), 0);
        Checks.due("put", x.put('a'), 1);
        Checks.due("count(1)", x.count(1), 0);
        x.begin();
        for (int round = 1; round < 200; round++) {
            Checks.due("count(1)", x.count(1), round);
            Checks.due("finish()", x.finish(), 1);
        }
    }

    private static void usedFor512Calls() {
        Checks.sentence("An object is used for at most 512 calls after it has been made");
        ProofSheets x = new ProofSheets();
        x.put('a');
        x.begin();
        for (int call = 3; call < 512; call++) {
            Checks.due("call " + call, x.finish(), 1);
        }
        Checks.due("the 512th call", x.count(1), 510);
    }

    private static void readers0To5() {
        Checks.sentence("There are readers 0 to 5.");
        ProofSheets x = Checks.inRoundOne("a");
        for (int reader = 0; reader <= 5; reader++) {
            Checks.due("reader", x.reader(reader, 3), 0);
            Checks.due("send(" + reader + ")", x.send(reader), reader);
            Checks.due("reader", x.reader(reader, 3), 1);
        }
        for (int none : new int[] {-1, 6, 256, Integer.MIN_VALUE, Integer.MAX_VALUE}) {
            Checks.due("send(" + none + ")", x.send(none), INVALID);
            Checks.due("reader(" + none + ", 0)", x.reader(none, 0), INVALID);
        }
        Checks.due("count(2)", x.count(2), 6);
    }

    private static void atMost8Sheets() {
        Checks.sentence("In a round there are at most 8 sheets, numbered from 0.");
        ProofSheets x = Checks.inRoundOne("a");
        for (int round = 1; round <= 2; round++) {
            Checks.due("sheet(0, 1)", x.sheet(0, 1), INVALID);
            for (int sheet = 0; sheet < 8; sheet++) {
                Checks.due("send", x.send(sheet % 4), sheet);
                Checks.due("sheet, the last one", x.sheet(sheet, 0), sheet % 4);
                Checks.due("sheet behind the last one", x.sheet(sheet + 1, 0), INVALID);
                x.bring(sheet);
                x.merge(sheet);
            }
            Checks.due("count(2)", x.count(2), 8);
            Checks.due("a ninth sheet", x.send(5), LIMIT);
            Checks.due("count(2)", x.count(2), 8);
            Checks.due("sheet(8, 0)", x.sheet(8, 0), INVALID);
            x.finish();
        }
    }

    private static void atMost8SheetsWhateverBecomesOfThem() {
        Checks.sentence("In a round there are at most 8 sheets");
        ProofSheets lost = Checks.inRoundOne("a");
        ProofSheets back = Checks.inRoundOne("a");
        for (int sheet = 0; sheet < 8; sheet++) {
            lost.send(0);
            lost.lose(sheet);
            back.send(0);
            back.bring(sheet);
        }
        Checks.due("a ninth sheet, the others are lost", lost.send(0), LIMIT);
        Checks.due("a ninth sheet, the others are back", back.send(0), LIMIT);
        Checks.due("undo", lost.undo(), 3);
        Checks.due("undo", lost.undo(), 2);
        Checks.due("an eighth sheet again", lost.send(3), 7);
        Checks.due("a ninth sheet again", lost.send(0), LIMIT);
    }

    private static void sheetIsOutAtFirst() {
        Checks.sentence("it is out at first, then it can be back, lost, or merged");
        ProofSheets x = Checks.inRoundOne("a");
        x.send(0);
        Checks.due("sent", x.sheet(0, 1), 0);
        x.lose(0);
        Checks.due("lost", x.sheet(0, 1), 2);
        x.find(0);
        Checks.due("found", x.sheet(0, 1), 1);
        x.lose(0);
        Checks.due("lost, it was back", x.sheet(0, 1), 2);
        x.find(0);
        x.merge(0);
        Checks.due("merged", x.sheet(0, 1), 3);
        x.send(0);
        Checks.due("another one, sent", x.sheet(1, 1), 0);
        x.bring(1);
        Checks.due("brought", x.sheet(1, 1), 1);
    }

    private static void atMostOneSheetOut() {
        Checks.sentence("A reader has at most one sheet that is out.");
        ProofSheets x = Checks.inRoundOne("a");
        Checks.due("the first one", x.send(2), 0);
        Checks.due("a second one", x.send(2), NOT_POSSIBLE);
        Checks.due("one to another reader", x.send(3), 1);
        x.bring(1);
        Checks.due("a second one, another reader's is back", x.send(2), NOT_POSSIBLE);
        x.bring(0);
        Checks.due("a second one, the first one is back", x.send(2), 2);
        Checks.due("a third one", x.send(2), NOT_POSSIBLE);
        x.lose(2);
        Checks.due("a third one, the second one is lost", x.send(2), 3);
        x.find(2);
        Checks.due("a fourth one, one that was found is back", x.send(2), NOT_POSSIBLE);
        x.bring(3);
        x.merge(3);
        Checks.due("a fourth one, the third one is merged", x.send(2), 4);
        Checks.due("count(3)", x.count(3), 1);
        x.undo();
        Checks.due("count(3), undone", x.count(3), 0);
        Checks.due("a fourth one, the sending is undone", x.send(2), 4);
    }

    // ---- the ranges of a mark's positions

    /** What the mark text is told for a sheet of a text of that length: its reason, or NOT_FOUND. */
    private static void reasonIs(int length, String mark, int reason) {
        ProofSheets x = Checks.withMarkText(Checks.repeated('x', length), mark);
        String told = "\"" + mark + "\" in a text of " + length;
        Checks.due("reason of " + told, x.fault(0, 1), reason);
        Checks.due("position of " + told, x.fault(0, 0), reason == NOT_FOUND ? NOT_FOUND : 0);
        Checks.due("write " + told, x.write(0), reason == NOT_FOUND ? 1 : NOT_POSSIBLE);
        Checks.due("marks after " + told, x.sheet(0, 2), reason == NOT_FOUND ? 1 : 0);
    }

    private static void rangeOfDel() {
        Checks.sentence("0 at least a, a less than b, b at most the length of the text");
        reasonIs(10, "del 0 1;", NOT_FOUND);
        reasonIs(10, "del 3 4;", NOT_FOUND);
        reasonIs(10, "del 3 3;", OUT_OF_RANGE);
        reasonIs(10, "del 4 3;", OUT_OF_RANGE);
        reasonIs(10, "del 0 0;", OUT_OF_RANGE);
        reasonIs(10, "del 9 10;", NOT_FOUND);
        reasonIs(10, "del 0 10;", NOT_FOUND);
        reasonIs(10, "del 9 11;", OUT_OF_RANGE);
        reasonIs(10, "del 0 11;", OUT_OF_RANGE);
        reasonIs(10, "del 10 10;", OUT_OF_RANGE);
        reasonIs(10, "del 10 11;", OUT_OF_RANGE);
        reasonIs(10, "del 0 256;", OUT_OF_RANGE);
        reasonIs(10, "del 0 257;", OUT_OF_RANGE);
        reasonIs(10, "del 256 257;", OUT_OF_RANGE);
        reasonIs(10, "del 998 999;", OUT_OF_RANGE);
        ProofSheets x = Checks.withMarkText("0123456789", "del -1 3;");
        Checks.due("a position below 0 is of no form", x.fault(0, 1), 2);
    }

    private static void rangeOfIns() {
        Checks.sentence("a from 0 to the length");
        reasonIs(10, "ins 0 x;", NOT_FOUND);
        reasonIs(10, "ins 9 x;", NOT_FOUND);
        reasonIs(10, "ins 10 x;", NOT_FOUND);
        reasonIs(10, "ins 11 x;", OUT_OF_RANGE);
        reasonIs(10, "ins 256 x;", OUT_OF_RANGE);
        reasonIs(10, "ins 999 x;", OUT_OF_RANGE);
    }

    private static void rangeOfRepCapAsk() {
        Checks.sentence("a from 0 to the length - 1");
        for (String mark : new String[] {"rep # x;", "cap #;", "ask #;"}) {
            reasonIs(10, mark.replace("#", "0"), NOT_FOUND);
            reasonIs(10, mark.replace("#", "9"), NOT_FOUND);
            reasonIs(10, mark.replace("#", "10"), OUT_OF_RANGE);
            reasonIs(10, mark.replace("#", "256"), OUT_OF_RANGE);
            reasonIs(10, mark.replace("#", "999"), OUT_OF_RANGE);
        }
    }

    private static void rangeOfSwap() {
        Checks.sentence("with swap to the length - 2");
        reasonIs(10, "swap 0;", NOT_FOUND);
        reasonIs(10, "swap 8;", NOT_FOUND);
        reasonIs(10, "swap 9;", OUT_OF_RANGE);
        reasonIs(10, "swap 10;", OUT_OF_RANGE);
        reasonIs(10, "swap 256;", OUT_OF_RANGE);
        reasonIs(10, "swap 999;", OUT_OF_RANGE);
        reasonIs(2, "swap 0;", NOT_FOUND);
        reasonIs(2, "swap 1;", OUT_OF_RANGE);
    }

    private static void rangesInTheLongestText() {
        Checks.sentence("b at most the length of the text");
        reasonIs(100, "del 99 100;", NOT_FOUND);
        reasonIs(100, "del 0 100;", NOT_FOUND);
        reasonIs(100, "del 99 101;", OUT_OF_RANGE);
        Checks.sentence("a from 0 to the length");
        reasonIs(100, "ins 100 x;", NOT_FOUND);
        reasonIs(100, "ins 101 x;", OUT_OF_RANGE);
        Checks.sentence("a from 0 to the length - 1, with swap to the length - 2");
        reasonIs(100, "rep 99 x;", NOT_FOUND);
        reasonIs(100, "rep 100 x;", OUT_OF_RANGE);
        reasonIs(100, "cap 99;", NOT_FOUND);
        reasonIs(100, "cap 100;", OUT_OF_RANGE);
        reasonIs(100, "ask 99;", NOT_FOUND);
        reasonIs(100, "ask 100;", OUT_OF_RANGE);
        reasonIs(100, "swap 98;", NOT_FOUND);
        reasonIs(100, "swap 99;", OUT_OF_RANGE);
    }

    private static void rangesInTheShortestText() {
        Checks.sentence("b at most the length of the text");
        reasonIs(1, "del 0 1;", NOT_FOUND);
        reasonIs(1, "del 0 2;", OUT_OF_RANGE);
        Checks.sentence("a from 0 to the length");
        reasonIs(1, "ins 1 x;", NOT_FOUND);
        reasonIs(1, "ins 2 x;", OUT_OF_RANGE);
        Checks.sentence("a from 0 to the length - 1, with swap to the length - 2");
        reasonIs(1, "rep 0 x;", NOT_FOUND);
        reasonIs(1, "rep 1 x;", OUT_OF_RANGE);
        reasonIs(1, "cap 0;", NOT_FOUND);
        reasonIs(1, "cap 1;", OUT_OF_RANGE);
        reasonIs(1, "ask 0;", NOT_FOUND);
        reasonIs(1, "ask 1;", OUT_OF_RANGE);
        reasonIs(1, "swap 0;", OUT_OF_RANGE);
    }

    private static void rangesInAnEmptyText() {
        Checks.sentence("a from 0 to the length");
        ProofSheets x = Checks.listed("ab", "del 0 2;");
        Checks.accept(x, 0);
        Checks.due("finish()", x.finish(), 0);
        x.send(0);
        for (String mark : new String[] {"del 0 1;", "del 0 0;", "ins 1 x;", "rep 0 x;", "swap 0;", "cap 0;",
                "ask 0;"}) {
            Checks.typed(x, mark);
            Checks.due("reason of \"" + mark + "\" in an empty text", x.fault(0, 1), OUT_OF_RANGE);
        }
        Checks.due("write \"ins 0 x;\" in an empty text", Checks.write(x, 0, "ins 0 x;"), 1);
    }

    private static void rangesFollowTheTextOfTheRound() {
        Checks.sentence("b at most the length of the text");
        ProofSheets longer = Checks.listed("abc", "ins 3 d;");
        Checks.accept(longer, 0);
        longer.send(1);
        Checks.due("\"cap 3;\", the ins is not carried out", Checks.write(longer, 1, "cap 3;"), NOT_POSSIBLE);
        longer.lose(1);
        Checks.due("finish()", longer.finish(), 4);
        longer.send(1);
        Checks.due("\"cap 3;\" in the next round", longer.write(0), 1);
        Checks.due("\"cap 4;\" in the next round", Checks.write(longer, 0, "cap 4;"), NOT_POSSIBLE);
        ProofSheets shorter = Checks.listed("abc", "del 0 1;");
        Checks.accept(shorter, 0);
        shorter.finish();
        shorter.send(1);
        Checks.due("\"del 1 2;\" in the next round", Checks.write(shorter, 0, "del 1 2;"), 1);
        Checks.due("\"del 1 3;\" in the next round", Checks.write(shorter, 0, "del 1 3;"), NOT_POSSIBLE);
    }

    private static void noLetterStays() {
        Checks.sentence("what is no letter, a to z or A to Z, stays");
        ProofSheets x = Checks.listed("`az{@AZ[", EIGHT);
        Checks.accept(x, 0, 1, 2, 3, 4, 5, 6, 7);
        Checks.wouldBe("cap of each", x, "`AZ{@az[");
        Checks.due("finish()", x.finish(), 8);
        Checks.text("cap of each", x, "`AZ{@az[");
        ProofSheets y = Checks.listed(" ~09bymn", EIGHT);
        Checks.accept(y, 0, 1, 2, 3, 4, 5, 6, 7);
        Checks.wouldBe("cap of each", y, " ~09BYMN");
    }

    // ---- marks on a sheet

    private static void atMost8Marks() {
        Checks.sentence("A sheet that is out can get marks, at most 8");
        ProofSheets x = Checks.withMarkText("0123456789", EIGHT);
        Checks.due("8 marks at once", x.write(0), 8);
        Checks.typed(x, "cap 8;");
        Checks.due("a ninth", x.write(0), NOT_POSSIBLE);
        Checks.due("its reason", x.fault(0, 1), NO_ROOM);
        Checks.due("sheet(0, 2)", x.sheet(0, 2), 8);
        ProofSheets y = Checks.withMarkText("0123456789", EIGHT + "cap 8;");
        Checks.due("9 marks at once", y.write(0), NOT_POSSIBLE);
        Checks.due("the position of the ninth", y.fault(0, 0), 48);
        Checks.due("none is written", y.sheet(0, 2), 0);
        ProofSheets z = Checks.withMarkText("0123456789", "");
        for (int mark = 0; mark < 8; mark++) {
            Checks.due("one after the other", Checks.write(z, 0, "ask " + mark + ";"), 1);
        }
        Checks.due("a ninth behind the others", Checks.write(z, 0, "ask 8;"), NOT_POSSIBLE);
        Checks.due("the last one", z.written(0, 7, 1), 7);
        Checks.due("written(0, 8, 0)", z.written(0, 8, 0), NOT_FOUND);
    }

    private static void noTwoMarksLike() {
        Checks.sentence("no two of them like");
        ProofSheets x = Checks.withMarkText("0123456789", "cap 0;rep 1 x;");
        Checks.due("two that are not like", x.write(0), 2);
        Checks.typed(x, "cap 0;");
        Checks.due("like the first one", x.fault(0, 1), LIKE);
        Checks.due("like the first one", x.write(0), NOT_POSSIBLE);
        Checks.due("like the last one", Checks.write(x, 0, "rep 1 x;"), NOT_POSSIBLE);
        Checks.due("not like it", Checks.write(x, 0, "rep 1 y;"), 1);
        Checks.due("two like ones at once", Checks.write(x, 0, "ask 0;ask 0;"), NOT_POSSIBLE);
        Checks.due("sheet(0, 2)", x.sheet(0, 2), 3);
        x.send(1);
        Checks.due("like one of another sheet", Checks.write(x, 1, "cap 0;"), 1);
    }

    private static void sheetsThatAreNotOutGetNoMarks() {
        Checks.sentence("A sheet that is out can get marks");
        ProofSheets x = Checks.withMarkText("0123456789", "cap 0;");
        Checks.due("out", x.write(0), 1);
        Checks.typed(x, "cap 1;");
        x.bring(0);
        Checks.due("back", x.write(0), NOT_POSSIBLE);
        x.lose(0);
        Checks.due("lost", x.write(0), NOT_POSSIBLE);
        x.find(0);
        Checks.due("found", x.write(0), NOT_POSSIBLE);
        x.merge(0);
        Checks.due("merged", x.write(0), NOT_POSSIBLE);
        Checks.due("sheet(0, 2)", x.sheet(0, 2), 1);
    }

    private static void likeMarks() {
        Checks.sentence("Two marks are like if they have the same kind, positions and character.");
        String[][] pairs = {{"cap 1;", "cap 01;"}, {"del 1 3;", "del 001 03;"}, {"ins 1 x;", "ins 001 x;"},
            {"rep 1 ;;", "rep 1 ;;"}, {"swap 1;", "swap 1;"}, {"ask 1;", "ask 1;"}};
        for (String[] pair : pairs) {
            ProofSheets x = Checks.listed("abcdef", pair[0]);
            Checks.due(pair[0] + " and " + pair[1], Checks.merged(x, 1, pair[1]), 1);
        }
        String[][] others = {{"cap 1;", "ask 1;"}, {"ins 1 x;", "rep 1 x;"}, {"cap 1;", "cap 2;"}, {"del 1 3;",
                "del 1 4;"},
            {"del 1 3;", "del 2 3;"}, {"ins 1 x;", "ins 2 x;"}, {"ins 1 x;", "ins 1 y;"}, {"rep 1 x;", "rep 1 X;"},
            {"rep 1 x;", "rep 2 x;"}, {"swap 1;", "cap 1;"}, {"swap 1;", "swap 2;"}, {"del 1 2;", "cap 1;"},
            {"ask 0;", "ask 1;"}};
        for (String[] pair : others) {
            ProofSheets x = Checks.listed("abcdef", pair[0]);
            Checks.due(pair[0] + " and " + pair[1], Checks.merged(x, 1, pair[1]), 0);
            Checks.due(pair[0] + " and " + pair[1] + " in the list", x.count(4), 2);
        }
    }

    // ---- standing against

    private static void against(String one, String other, int due) {
        ProofSheets x = Checks.listed("abcdef", one + other);
        Checks.due(one + " against " + other, x.against(0, 1), due);
        Checks.due(other + " against " + one, x.against(1, 0), due);
        Checks.due("pairs of " + one + other, x.count(8), due);
        Checks.due("against " + one, x.mark(0, 7), due);
        Checks.accept(x, 0);
        Checks.due(other + " can be accepted", x.mark(1, 8), 1 - due);
    }

    private static void marksThatCoverAPositionTogether() {
        Checks.sentence("they cover a position together");
        for (String mark : new String[] {"cap #;", "rep # x;"}) {
            against("del 2 4;", mark.replace("#", "1"), 0);
            against("del 2 4;", mark.replace("#", "2"), 1);
            against("del 2 4;", mark.replace("#", "3"), 1);
            against("del 2 4;", mark.replace("#", "4"), 0);
            against("swap 2;", mark.replace("#", "1"), 0);
            against("swap 2;", mark.replace("#", "2"), 1);
            against("swap 2;", mark.replace("#", "3"), 1);
            against("swap 2;", mark.replace("#", "4"), 0);
        }
        against("del 2 4;", "del 0 2;", 0);
        against("del 2 4;", "del 0 3;", 1);
        against("del 2 4;", "del 3 6;", 1);
        against("del 2 4;", "del 4 6;", 0);
        against("del 0 6;", "del 2 3;", 1);
        against("del 2 4;", "swap 0;", 0);
        against("del 2 4;", "swap 1;", 1);
        against("del 2 4;", "swap 3;", 1);
        against("del 2 4;", "swap 4;", 0);
        against("swap 1;", "swap 2;", 1);
        against("swap 1;", "swap 3;", 0);
        against("rep 2 x;", "rep 2 y;", 1);
        against("rep 2 x;", "rep 3 x;", 0);
        against("rep 2 x;", "cap 2;", 1);
        against("cap 2;", "cap 3;", 0);
    }

    private static void insInsideOfAnother() {
        Checks.sentence("one is an ins at a position a, and the other one covers both a - 1 and a");
        against("ins 2 x;", "del 1 3;", 1);
        against("ins 2 x;", "del 0 6;", 1);
        against("ins 2 x;", "del 0 2;", 0);
        against("ins 2 x;", "del 2 4;", 0);
        against("ins 2 x;", "del 1 2;", 0);
        against("ins 2 x;", "del 2 3;", 0);
        against("ins 0 x;", "del 0 6;", 0);
        against("ins 1 x;", "del 0 6;", 1);
        against("ins 5 x;", "del 0 6;", 1);
        against("ins 6 x;", "del 0 6;", 0);
        against("ins 2 x;", "swap 0;", 0);
        against("ins 2 x;", "swap 1;", 1);
        against("ins 2 x;", "swap 2;", 0);
        against("ins 2 x;", "cap 1;", 0);
        against("ins 2 x;", "cap 2;", 0);
        against("ins 2 x;", "rep 1 x;", 0);
        against("ins 2 x;", "rep 2 x;", 0);
    }

    private static void twoIns() {
        Checks.sentence("both are an ins at the same position");
        against("ins 2 x;", "ins 2 y;", 1);
        against("ins 2 x;", "ins 1 x;", 0);
        against("ins 2 x;", "ins 3 x;", 0);
        against("ins 0 x;", "ins 0 y;", 1);
        against("ins 6 x;", "ins 6 y;", 1);
    }

    private static void askStandsAgainstNone() {
        Checks.sentence("stand against each other if none of them is an ask");
        for (String mark : new String[] {"del 1 4;", "ins 2 x;", "rep 2 x;", "swap 2;", "cap 2;", "ask 3;"}) {
            against("ask 2;", mark, 0);
        }
    }

    private static void likeMarksDoNotStandAgainst() {
        Checks.sentence("Two marks that are not like stand against each other");
        ProofSheets x = Checks.listed("abcdef", "del 1 4;ins 5 x;rep 4 x;", "del 1 4;ins 5 x;rep 4 x;");
        Checks.due("count(8)", x.count(8), 0);
        Checks.accept(x, 0, 1, 2);
        x.send(2);
        Checks.write(x, 2, "del 1 4;ins 5 x;rep 4 x;del 1 3;");
        for (int mark = 0; mark < 3; mark++) {
            Checks.due("against(" + mark + ", " + mark + ")", x.against(mark, mark), 0);
        }
        Checks.due("marks like accepted ones, and one that stands against", x.sheet(2, 4), 1);
    }

    // ---- the list

    private static void marksGoIntoTheListInTheirOrder() {
        Checks.sentence("its marks go into the list of the round, in their order");
        ProofSheets x = Checks.listed("abcdef", "cap 3;cap 1;", "cap 5;cap 1;cap 0;");
        int[] firsts = {3, 1, 5, 0};
        for (int mark = 0; mark < firsts.length; mark++) {
            Checks.due("mark(" + mark + ", 1)", x.mark(mark, 1), firsts[mark]);
            Checks.due("mark(" + mark + ", 4)", x.mark(mark, 4), 0);
            Checks.due("mark(" + mark + ", 5)", x.mark(mark, 5), mark == 1 ? 2 : 1);
        }
        Checks.sentence("Marks of the list are numbered from 0.");
        Checks.due("mark(-1, 1)", x.mark(-1, 1), INVALID);
        Checks.due("mark(4, 1)", x.mark(4, 1), INVALID);
    }

    /** 64 marks, no two of them like, in as few calls as an object is used for. */
    private static void longestList() {
        Checks.sentence("otherwise it is a new one behind the others of the list, not answered");
        ProofSheets x = Checks.inRoundOne(Checks.repeated('x', 27));
        int written = 0;
        for (int sheet = 0; sheet < 8; sheet++) {
            StringBuilder marks = new StringBuilder();
            for (int i = 0; i < 8; i++) {
                marks.append(written < 27 ? "cap " + written : written < 54
                        ? "ask " + (written - 27) : "swap " + (written - 54));
                marks.append(';');
                written++;
            }
            x.send(0);
            Checks.due("write", Checks.write(x, sheet, marks.toString()), 8);
            x.bring(sheet);
            Checks.due("merge", x.merge(sheet), 0);
        }
        Checks.due("count(4)", x.count(4), 64);
        Checks.due("mark(63, 0)", x.mark(63, 0), 3);
        Checks.due("mark(63, 1)", x.mark(63, 1), 9);
        Checks.due("mark(64, 0)", x.mark(64, 0), INVALID);
        Checks.due("answer(63, 0)", x.answer(63, 0), 63);
        Checks.due("answer(64, 0)", x.answer(64, 0), INVALID);
        Checks.due("count(8)", x.count(8), 29);
    }

    private static void answeredOnce() {
        Checks.sentence("A mark of the list is answered once: 0 accepted, or 1 refused.");
        ProofSheets x = Checks.listed("abcdef", "cap 0;cap 1;");
        Checks.due("accepted", x.answer(0, 0), 1);
        Checks.due("refused", x.answer(1, 1), 0);
        for (int mark = 0; mark < 2; mark++) {
            for (int answer = 0; answer < 2; answer++) {
                Checks.due("a second answer", x.answer(mark, answer), NOT_POSSIBLE);
            }
            Checks.due("mark(" + mark + ", 4)", x.mark(mark, 4), mark + 1);
        }
        x.undo();
        Checks.due("accepted, the first answer is undone", x.answer(1, 0), 0);
    }

    private static void notAcceptedAgainstAnAcceptedOne() {
        Checks.sentence("It can not be accepted if it stands against an accepted one.");
        ProofSheets x = Checks.listed("abcdef", "rep 1 x;rep 1 y;rep 1 z;cap 0;");
        x.answer(0, 1);
        Checks.due("against a refused one and one that is not answered", x.answer(1, 0), 2);
        Checks.due("mark(2, 8)", x.mark(2, 8), 0);
        Checks.due("against an accepted one", x.answer(2, 0), NOT_POSSIBLE);
        Checks.due("against none", x.answer(3, 0), 1);
        Checks.due("refused, against an accepted one", x.answer(2, 1), 0);
    }

    private static void askIsAnsweredLikewise() {
        Checks.sentence("An ask is answered likewise.");
        ProofSheets x = Checks.listed("abcdef", "ask 1;ask 2;rep 1 x;");
        Checks.accept(x, 2);
        Checks.due("accepted", x.answer(0, 0), 1);
        Checks.due("refused", x.answer(1, 1), 0);
        Checks.due("a second answer", x.answer(0, 1), NOT_POSSIBLE);
        Checks.due("a second answer", x.answer(1, 0), NOT_POSSIBLE);
        Checks.due("accepted ones", x.count(12), 2);
        Checks.due("refused ones", x.count(13), 1);
    }

    private static void answerStays() {
        Checks.sentence("When a like mark is merged later, the answer stays.");
        ProofSheets x = Checks.listed("abcdef", "cap 0;cap 1;cap 2;");
        x.answer(0, 0);
        x.answer(1, 1);
        Checks.due("merge", Checks.merged(x, 1, "cap 2;cap 1;cap 0;"), 3);
        Checks.due("accepted", x.mark(0, 4), 1);
        Checks.due("refused", x.mark(1, 4), 2);
        Checks.due("not answered", x.mark(2, 4), 0);
        Checks.due("count(5)", x.count(5), 1);
        Checks.due("answer of an accepted one", x.answer(0, 1), NOT_POSSIBLE);
    }

    private static void lostSheetIsNotMerged() {
        Checks.sentence("A lost sheet is not merged; it can be found, which makes it back");
        ProofSheets x = Checks.inRoundOne("abcdef");
        Checks.back(x, 0, "cap 0;");
        x.lose(0);
        Checks.due("merge, lost", x.merge(0), NOT_POSSIBLE);
        Checks.due("count(4)", x.count(4), 0);
        Checks.due("find", x.find(0), 1);
        Checks.due("sheet(0, 1)", x.sheet(0, 1), 1);
        Checks.due("merge, found", x.merge(0), 0);
        Checks.due("count(4)", x.count(4), 1);
    }

    private static void lostSheetIsFoundInItsRound() {
        Checks.sentence("as long as its round is not over");
        ProofSheets x = Checks.inRoundOne("abcdef");
        x.send(0);
        x.send(1);
        x.lose(0);
        x.lose(1);
        Checks.due("find in its round", x.find(1), 0);
        x.merge(1);
        x.finish();
        Checks.due("find in the next round", x.find(0), INVALID);
        x.send(3);
        Checks.due("find of a new sheet of that number", x.find(0), NOT_POSSIBLE);
        x.undo();
        x.undo();
        Checks.due("find, the end of the round is undone", x.find(0), 0);
    }

    private static void roundThatCanBeFinished() {
        Checks.sentence("A round can be finished when no sheet is out or back, and all marks of the list "
                + "are answered.");
        ProofSheets x = Checks.withText("abc");
        Checks.due("in the round 0", x.finish(), NOT_POSSIBLE);
        x.begin();
        x.send(0);
        x.send(1);
        x.lose(1);
        Checks.due("a sheet is out", x.finish(), NOT_POSSIBLE);
        x.bring(0);
        Checks.due("a sheet is back", x.finish(), NOT_POSSIBLE);
        x.merge(0);
        Checks.due("one is merged, one is lost", x.finish(), 3);
        Checks.due("no sheet", x.finish(), 3);
        Checks.merged(x, 0, "cap 0;cap 1;");
        Checks.due("no mark is answered", x.finish(), NOT_POSSIBLE);
        x.answer(1, 0);
        Checks.due("one mark is not answered", x.finish(), NOT_POSSIBLE);
        x.answer(0, 1);
        Checks.due("all marks are answered", x.finish(), 3);
        Checks.due("count(1)", x.count(1), 4);
    }

    private static void nextRoundBeginsEmpty() {
        Checks.sentence("the next round begins, with no sheets and an empty list");
        ProofSheets x = Checks.listed("abc", "cap 0;", "cap 0;cap 1;");
        x.send(2);
        x.lose(2);
        Checks.answerAll(x);
        x.finish();
        Checks.due("count(2)", x.count(2), 0);
        Checks.due("count(3)", x.count(3), 0);
        Checks.due("count(4)", x.count(4), 0);
        Checks.due("count(5)", x.count(5), 0);
        Checks.due("count(8)", x.count(8), 0);
        Checks.due("sheet(0, 0)", x.sheet(0, 0), INVALID);
        Checks.due("mark(0, 0)", x.mark(0, 0), INVALID);
        Checks.due("next()", x.next(), NOT_FOUND);
        Checks.due("merge", Checks.merged(x, 3, "cap 1;"), 0);
        Checks.due("the sheet has one mark", x.sheet(0, 2), 1);
        Checks.due("one sheet had it", x.mark(0, 5), 1);
        Checks.due("the reader 3 had it", x.mark(0, 6), 3);
        Checks.due("it is not answered", x.mark(0, 4), 0);
    }

    private static void lostForGood() {
        Checks.sentence("The marks of sheets that are still lost are lost for good.");
        ProofSheets x = Checks.inRoundOne("abc");
        x.lose(Checks.back(x, 0, "cap 0;cap 1;"));
        x.lose(Checks.back(x, 0, "cap 0;"));
        x.lose(Checks.back(x, 0, "ask 1;"));
        x.find(1);
        x.merge(1);
        Checks.accept(x, 0);
        Checks.due("count(14), the round is not over", x.count(14), 0);
        x.finish();
        Checks.due("count(14)", x.count(14), 3);
        x.finish();
        Checks.due("count(14), a round later", x.count(14), 3);
    }

    // ---- carrying out

    private static void carriedOut(String text, String marks, String want) {
        ProofSheets x = Checks.listed(text, marks);
        Checks.answerAll(x);
        Checks.due("refused of " + marks, x.count(13), 0);
        Checks.wouldBe(marks, x, want);
        Checks.due("finish after " + marks, x.finish(), want.length());
        Checks.text(marks, x, want);
    }

    private static void carriedOutAtTheEnds() {
        Checks.sentence("ahead of the position a comes the character of an accepted ins at a");
        carriedOut("abc", "ins 0 x;", "xabc");
        carriedOut("abc", "ins 2 x;", "abxc");
        carriedOut("abc", "ins 3 x;", "abcx");
        carriedOut("abc", "ins 0 0;ins 1 1;ins 2 2;ins 3 3;", "0a1b2c3");
        Checks.sentence("a character that an accepted del covers is left out");
        carriedOut("abc", "del 0 1;", "bc");
        carriedOut("abc", "del 2 3;", "ab");
        carriedOut("abc", "del 0 3;", "");
        carriedOut("abc", "del 0 3;ins 0 x;ins 3 y;", "xy");
        carriedOut("abcd", "del 1 3;ins 1 x;ins 3 y;", "axyd");
        Checks.sentence("one that a rep covers is replaced, one that a cap covers altered");
        carriedOut("abc", "rep 0 x;cap 2;", "xbC");
        carriedOut("abc", "cap 0;rep 2 ~;", "Ab~");
        carriedOut("abc", "ins 1 x;rep 1 y;ins 2 z;", "axyzc");
        Checks.sentence("two that a swap covers change places");
        carriedOut("ab", "swap 0;", "ba");
        carriedOut("abc", "swap 1;ins 1 x;ins 3 y;", "axcby");
        carriedOut("abcd", "swap 0;swap 2;ins 2 -;", "ba-dc");
        Checks.sentence("a question at a, which alters nothing");
        carriedOut("abc", "ask 0;ask 2;cap 2;", "abC");
    }

    private static void cutTo100() {
        Checks.sentence("If the new text has more than 100 characters, only the first 100 stay.");
        String nearly = Checks.repeated('x', 98) + "y";
        carriedOut(nearly, "ins 0 a;", "a" + nearly);
        carriedOut(nearly + "z", "ins 0 a;", "a" + nearly);
        carriedOut(nearly + "z", "ins 100 a;", nearly + "z");
        carriedOut(nearly + "z", "ins 99 a;", nearly + "a");
        carriedOut(nearly + "z", "ins 0 a;ins 99 b;del 1 2;", "a" + nearly.substring(1) + "b");
        carriedOut(nearly + "z", "ins 0 a;ins 100 b;del 98 99;", "a" + Checks.repeated('x', 98) + "z");
        carriedOut(nearly + "z", "ins 100 b;del 98 99;", Checks.repeated('x', 98) + "zb");
        carriedOut(nearly + "z", "ins 0 a;ins 1 b;ins 2 c;", "axbxcx" + Checks.repeated('x', 94));
    }

    // ---- accounts

    private static void accountsAre(String when, ProofSheets x, int... due) {
        for (int account = 0; account < due.length; account++) {
            Checks.due("account " + account + ", " + when, x.count(10 + account), due[account]);
        }
        Checks.accountsAddUp(when, x);
    }

    private static void accountsOfAnEmptyRound() {
        Checks.sentence("0 is the sum of the others");
        ProofSheets x = new ProofSheets();
        accountsAre("new", x, 0, 0, 0, 0, 0, 0, 0);
        x.put('a');
        x.begin();
        x.send(0);
        Checks.write(x, 0, "");
        x.send(1);
        x.lose(1);
        x.bring(0);
        x.merge(0);
        x.finish();
        accountsAre("sheets without marks", x, 0, 0, 0, 0, 0, 0, 0);
    }

    private static void accountsOfEachMark() {
        Checks.sentence("5 marks that are on sheets of this round that are not merged (lost ones included)");
        ProofSheets x = Checks.withMarkText("abcdef", "cap 0;cap 1;");
        accountsAre("not written", x, 0, 0, 0, 0, 0, 0, 0);
        x.write(0);
        accountsAre("out", x, 2, 0, 0, 0, 0, 2, 0);
        x.bring(0);
        accountsAre("back", x, 2, 0, 0, 0, 0, 2, 0);
        x.lose(0);
        accountsAre("lost", x, 2, 0, 0, 0, 0, 2, 0);
        x.find(0);
        accountsAre("found", x, 2, 0, 0, 0, 0, 2, 0);
        x.merge(0);
        Checks.sentence("6 marks of the list that are not answered");
        accountsAre("merged", x, 2, 0, 0, 0, 0, 0, 2);
        x.answer(0, 0);
        accountsAre("one accepted", x, 2, 0, 1, 0, 0, 0, 1);
        x.answer(1, 1);
        accountsAre("one refused", x, 2, 0, 1, 1, 0, 0, 0);
        Checks.sentence("1 marks united with one of the list");
        Checks.merged(x, 0, "cap 1;cap 0;cap 2;");
        accountsAre("two united", x, 5, 2, 1, 1, 0, 0, 1);
        x.answer(2, 0);
        x.lose(Checks.back(x, 0, "cap 3;"));
        Checks.sentence("4 lost for good");
        accountsAre("one lost", x, 6, 2, 2, 1, 0, 1, 0);
        x.finish();
        accountsAre("one lost for good", x, 6, 2, 2, 1, 1, 0, 0);
        x.undo();
        accountsAre("the end of the round is undone", x, 6, 2, 2, 1, 0, 1, 0);
    }
}
