/**
 * The promises 14 to 21: each value and each error that they name, at the last argument or state for which
 * it is due and at the first one for which it is not.
 */
public final class ListCallsLimitsTest {
    private static final int INVALID = -1;
    private static final int NOT_POSSIBLE = -2;
    private static final int NOT_FOUND = -4;
    private static final int[] FAR = {-2, 64, 100, 256, 65536, Integer.MIN_VALUE, Integer.MAX_VALUE};

    public static void main(String[] args) {
        numberOfMark();
        whatOfMark();
        partsOfMark();
        sheetsThatHadIt();
        lowestReaderWhoHadIt();
        marksAgainstIt();
        canBeAcceptedNow();
        argumentsOfAnswer();
        answersLeft();
        answerOfAnAnsweredOne();
        answerThatCanNotBe();
        numbersOfAgainst();
        nextOfAnEmptyList();
        nextWithTheMostSheets();
        nextWithTheLeastPosition();
        nextWithTheLowestNumber();
        finishInRound0();
        finishWithASheetOutOrBack();
        finishWithAMarkNotAnswered();
        finishReturnsTheNewLength();
        positionOfWould();
        positionOfAgain();
        acceptedMarksAlone();
        wouldOfALongerText();
        againInTurn();
        againCutAtTheEndAlone();
        argumentsOfReader();
        sheetsOfAReader();
        marksOfAReader();
        mergedMarksOfAReader();
        readerWithASheetOut();
        Checks.end("ListCallsLimitsTest");
    }

    // ---- mark

    private static void numberOfMark() {
        Checks.sentence("14: INVALID_ARGUMENT if an argument is out of range");
        ProofSheets x = Checks.inRoundOne("abc");
        Checks.due("mark(0, 0), an empty list", x.mark(0, 0), INVALID);
        Checks.back(x, 0, "cap 0;ask 1;");
        Checks.due("mark(0, 0), not merged", x.mark(0, 0), INVALID);
        x.merge(0);
        Checks.due("mark(-1, 0)", x.mark(-1, 0), INVALID);
        Checks.due("mark(0, 0)", x.mark(0, 0), 4);
        Checks.due("mark(1, 0)", x.mark(1, 0), 5);
        Checks.due("mark(2, 0)", x.mark(2, 0), INVALID);
        Checks.due("mark(2, 2), no such mark and no del", x.mark(2, 2), INVALID);
        for (int none : FAR) {
            Checks.due("mark(" + none + ", 0)", x.mark(none, 0), INVALID);
        }
        x.undo();
        Checks.due("mark(0, 0), the merging is undone", x.mark(0, 0), INVALID);
    }

    private static void whatOfMark() {
        Checks.sentence("14: INVALID_ARGUMENT if an argument is out of range");
        ProofSheets x = Checks.listed("abc", "del 0 1;");
        Checks.due("mark(0, -1)", x.mark(0, -1), INVALID);
        Checks.due("mark(0, 0)", x.mark(0, 0), 0);
        Checks.due("mark(0, 8)", x.mark(0, 8), 1);
        Checks.due("mark(0, 9)", x.mark(0, 9), INVALID);
        for (int none : FAR) {
            Checks.due("mark(0, " + none + ")", x.mark(0, none), INVALID);
        }
    }

    private static void partsOfMark() {
        Checks.sentence("14: NOT_FOUND for 2 if it is no del, for 3 if it is neither ins nor rep");
        ProofSheets x = Checks.listed("0123456789", "del 1 3;ins 1  ;rep 1 ~;swap 1;cap 1;ask 1;");
        for (int kind = 0; kind < 6; kind++) {
            Checks.due("kind " + kind, x.mark(kind, 0), kind);
            Checks.due("first position of kind " + kind, x.mark(kind, 1), 1);
            Checks.due("second position of kind " + kind, x.mark(kind, 2), kind == 0 ? 3 : NOT_FOUND);
            Checks.due("character of kind " + kind, x.mark(kind, 3), kind == 1 ? 32 : kind == 2 ? 126 : NOT_FOUND);
        }
        ProofSheets y = Checks.listed(Checks.repeated('x', 100), "del 0 100;ins 100 x;rep 99 x;swap 98;ask 99;");
        Checks.due("the first position of del 0 100", y.mark(0, 1), 0);
        Checks.due("the second position of del 0 100", y.mark(0, 2), 100);
        Checks.due("the position of ins 100", y.mark(1, 1), 100);
        Checks.due("the position of rep 99", y.mark(2, 1), 99);
        Checks.due("the position of swap 98", y.mark(3, 1), 98);
        Checks.due("the position of ask 99", y.mark(4, 1), 99);
    }

    private static void sheetsThatHadIt() {
        Checks.sentence("14: 5: how many sheets had it");
        ProofSheets x = Checks.inRoundOne("abc");
        for (int sheet = 0; sheet < 8; sheet++) {
            Checks.back(x, sheet % 2, "cap 0;");
            if (sheet > 0) {
                Checks.due("sheets, one more is back", x.mark(0, 5), sheet);
            }
            x.merge(sheet);
            Checks.due("sheets", x.mark(0, 5), sheet + 1);
        }
        x.undo();
        Checks.due("sheets, one merging is undone", x.mark(0, 5), 7);
    }

    private static void lowestReaderWhoHadIt() {
        Checks.sentence("14: 6: the lowest reader who had it");
        ProofSheets x = Checks.inRoundOne("abc");
        int[] readers = {5, 3, 4, 3, 0, 1, 0};
        int[] lowest = {5, 3, 3, 3, 0, 0, 0};
        for (int sheet = 0; sheet < readers.length; sheet++) {
            Checks.merged(x, readers[sheet], "cap 0;");
            Checks.due("lowest reader of " + (sheet + 1), x.mark(0, 6), lowest[sheet]);
        }
    }

    private static void marksAgainstIt() {
        Checks.sentence("14: 7: how many marks of the list stand against it");
        ProofSheets x = Checks.listed("abcdef", "del 0 6;", "cap 0;cap 5;ins 0 x;ins 6 x;ins 1 x;ask 2;");
        int[] against = {3, 1, 1, 0, 0, 1, 0};
        for (int mark = 0; mark < against.length; mark++) {
            Checks.due("mark(" + mark + ", 7)", x.mark(mark, 7), against[mark]);
        }
        x.answer(1, 1);
        Checks.due("a refused one counts", x.mark(0, 7), 3);
        x.answer(0, 0);
        Checks.due("an accepted one counts", x.mark(1, 7), 1);
    }

    private static void canBeAcceptedNow() {
        Checks.sentence("14: 8: 1 if it can be accepted now (it is not answered, and no accepted one stands "
                + "against it)");
        ProofSheets x = Checks.listed("abcdef", "rep 1 x;rep 1 y;cap 2;");
        Checks.due("nothing is answered", x.mark(0, 8), 1);
        Checks.due("nothing is answered", x.mark(1, 8), 1);
        x.answer(0, 1);
        Checks.due("it is refused", x.mark(0, 8), 0);
        Checks.due("one against it is refused", x.mark(1, 8), 1);
        x.undo();
        x.answer(0, 0);
        Checks.due("it is accepted", x.mark(0, 8), 0);
        Checks.due("one against it is accepted", x.mark(1, 8), 0);
        Checks.due("another one is accepted", x.mark(2, 8), 1);
        x.undo();
        Checks.due("the answer is undone", x.mark(1, 8), 1);
    }

    // ---- answer, against

    private static void argumentsOfAnswer() {
        Checks.sentence("15: INVALID_ARGUMENT if an argument is out of range");
        ProofSheets x = Checks.inRoundOne("abc");
        Checks.due("answer(0, 0), an empty list", x.answer(0, 0), INVALID);
        Checks.merged(x, 0, "cap 0;cap 1;");
        Checks.due("answer(-1, 0)", x.answer(-1, 0), INVALID);
        Checks.due("answer(2, 0)", x.answer(2, 0), INVALID);
        Checks.due("answer(0, -1)", x.answer(0, -1), INVALID);
        Checks.due("answer(0, 2)", x.answer(0, 2), INVALID);
        for (int none : FAR) {
            Checks.due("answer(" + none + ", 0)", x.answer(none, 0), INVALID);
            Checks.due("answer(0, " + none + ")", x.answer(0, none), INVALID);
        }
        Checks.due("answer(0, 0)", x.answer(0, 0), 1);
        Checks.due("answer(1, 1)", x.answer(1, 1), 0);
    }

    private static void answersLeft() {
        Checks.sentence("15: Returns how many marks are not answered then");
        ProofSheets x = Checks.listed("abcdef", "cap 0;cap 1;cap 2;cap 3;ask 0;ask 1;ask 2;ask 3;", "cap 0;cap 4;");
        for (int mark = 8; mark >= 0; mark--) {
            Checks.due("answer(" + mark + ")", x.answer(mark, mark % 2), mark);
            Checks.due("count(5)", x.count(5), mark);
        }
        Checks.due("a mark that is merged later", Checks.merged(x, 2, "cap 5;"), 0);
        Checks.due("count(5)", x.count(5), 1);
        Checks.due("answer(9, 1)", x.answer(9, 1), 0);
    }

    private static void answerOfAnAnsweredOne() {
        Checks.sentence("15: NOT_POSSIBLE if it is answered");
        for (int first = 0; first < 2; first++) {
            for (int second = 0; second < 2; second++) {
                ProofSheets x = Checks.listed("abc", "cap 0;");
                Checks.due("the first answer", x.answer(0, first), 0);
                Checks.due("the second answer", x.answer(0, second), NOT_POSSIBLE);
                Checks.due("mark(0, 4)", x.mark(0, 4), first + 1);
                Checks.due("count(12)", x.count(12), 1 - first);
                Checks.due("count(13)", x.count(13), first);
            }
        }
    }

    private static void answerThatCanNotBe() {
        Checks.sentence("15: NOT_POSSIBLE if it is to be accepted and can not be");
        ProofSheets x = Checks.listed("abcdef", "del 0 2;ins 1 x;cap 1;ins 2 x;", "ins 2 y;ask 0;");
        x.answer(0, 0);
        Checks.due("ins inside of an accepted del", x.answer(1, 0), NOT_POSSIBLE);
        Checks.due("cap inside of an accepted del", x.answer(2, 0), NOT_POSSIBLE);
        Checks.due("ins at the end of it", x.answer(3, 0), 4);
        Checks.due("another ins there", x.answer(4, 0), NOT_POSSIBLE);
        Checks.due("ask inside of it", x.answer(5, 0), 3);
        Checks.due("to be refused", x.answer(1, 1), 2);
        Checks.due("to be refused", x.answer(2, 1), 1);
        Checks.due("to be refused", x.answer(4, 1), 0);
    }

    private static void numbersOfAgainst() {
        Checks.sentence("16: INVALID_ARGUMENT: there is no such mark");
        ProofSheets x = Checks.inRoundOne("abc");
        Checks.due("against(0, 0), an empty list", x.against(0, 0), INVALID);
        Checks.merged(x, 0, "cap 0;rep 0 x;ask 0;");
        Checks.due("against(0, 1)", x.against(0, 1), 1);
        Checks.due("against(1, 0)", x.against(1, 0), 1);
        Checks.due("against(0, 2)", x.against(0, 2), 0);
        Checks.due("against(2, 2)", x.against(2, 2), 0);
        Checks.due("against(-1, 0)", x.against(-1, 0), INVALID);
        Checks.due("against(0, -1)", x.against(0, -1), INVALID);
        Checks.due("against(3, 0)", x.against(3, 0), INVALID);
        Checks.due("against(0, 3)", x.against(0, 3), INVALID);
        for (int none : FAR) {
            Checks.due("against(" + none + ", 0)", x.against(none, 0), INVALID);
            Checks.due("against(0, " + none + ")", x.against(0, none), INVALID);
        }
    }

    // ---- next

    private static void nextOfAnEmptyList() {
        Checks.sentence("17: NOT_FOUND if there is none");
        ProofSheets x = Checks.withText("abc");
        Checks.due("in the round 0", x.next(), NOT_FOUND);
        x.begin();
        Checks.due("an empty list", x.next(), NOT_FOUND);
        Checks.merged(x, 0, "cap 2;");
        Checks.due("one mark", x.next(), 0);
        x.answer(0, 1);
        Checks.due("it is answered", x.next(), NOT_FOUND);
        x.undo();
        Checks.due("the answer is undone", x.next(), 0);
    }

    private static void nextWithTheMostSheets() {
        Checks.sentence("17: of those that are not answered the one with the most sheets");
        ProofSheets x = Checks.listed("abcdef", "cap 0;cap 1;cap 5;", "cap 5;cap 1;", "cap 5;");
        Checks.due("three sheets", x.next(), 2);
        x.answer(2, 1);
        Checks.due("two sheets", x.next(), 1);
        x.answer(1, 0);
        Checks.due("one sheet", x.next(), 0);
        x.answer(0, 0);
        Checks.due("none is left", x.next(), NOT_FOUND);
        Checks.merged(x, 3, "cap 5;cap 4;");
        Checks.due("not the answered one with the most sheets", x.next(), 3);
    }

    private static void nextWithTheLeastPosition() {
        Checks.sentence("17: of several the one with the least first position");
        ProofSheets x = Checks.listed("abcdef", "cap 3;cap 1;cap 2;", "cap 3;cap 1;cap 2;", "ask 0;del 0 6;");
        Checks.due("the least of those with two sheets", x.next(), 1);
        x.answer(1, 0);
        Checks.due("the next least", x.next(), 2);
        x.answer(2, 0);
        Checks.due("the greatest", x.next(), 0);
        x.answer(0, 0);
        Checks.due("one sheet", x.next(), 3);
    }

    private static void nextWithTheLowestNumber() {
        Checks.sentence("17: then the lowest number");
        ProofSheets x = Checks.listed("abcdef", "rep 2 z;del 2 6;cap 2;rep 2 a;del 2 3;ins 2 x;");
        int[] order = {0, 1, 2, 3, 4, 5};
        for (int mark : order) {
            Checks.due("of equal ones", x.next(), mark);
            x.answer(mark, 1);
        }
        Checks.due("none is left", x.next(), NOT_FOUND);
    }

    // ---- finish

    private static void finishInRound0() {
        Checks.sentence("18: NOT_POSSIBLE if the round is 0");
        ProofSheets x = new ProofSheets();
        Checks.due("in the round 0, empty", x.finish(), NOT_POSSIBLE);
        x.put('a');
        Checks.due("in the round 0", x.finish(), NOT_POSSIBLE);
        x.begin();
        Checks.due("in the round 1", x.finish(), 1);
    }

    private static void finishWithASheetOutOrBack() {
        Checks.sentence("18: NOT_POSSIBLE if a sheet is out or back");
        ProofSheets x = Checks.inRoundOne("abc");
        for (int sheet = 0; sheet < 3; sheet++) {
            x.send(sheet);
        }
        Checks.due("three are out", x.finish(), NOT_POSSIBLE);
        x.lose(0);
        x.lose(1);
        Checks.due("the last one is out", x.finish(), NOT_POSSIBLE);
        x.bring(2);
        Checks.due("the last one is back", x.finish(), NOT_POSSIBLE);
        x.merge(2);
        x.find(0);
        Checks.due("the first one is back", x.finish(), NOT_POSSIBLE);
        x.lose(0);
        Checks.due("two are lost, one is merged", x.finish(), 3);
    }

    private static void finishWithAMarkNotAnswered() {
        Checks.sentence("18: NOT_POSSIBLE if a mark is not answered");
        ProofSheets x = Checks.listed("abc", "cap 0;cap 1;ask 2;");
        x.answer(0, 0);
        x.answer(2, 0);
        Checks.due("one is not answered", x.finish(), NOT_POSSIBLE);
        x.answer(1, 1);
        Checks.due("all are answered", x.finish(), 3);
        Checks.text("carried out", x, "Abc");
    }

    private static void finishReturnsTheNewLength() {
        Checks.sentence("18: Returns the length of the new text");
        String[] marks = {"", "ins 0 x;", "del 0 1;", "del 0 3;", "cap 0;ask 1;rep 2 x;", "ins 3 x;del 0 3;"};
        int[] lengths = {3, 4, 2, 0, 3, 1};
        for (int i = 0; i < marks.length; i++) {
            ProofSheets x = Checks.listed("abc", marks[i]);
            Checks.answerAll(x);
            Checks.due("finish after \"" + marks[i] + "\"", x.finish(), lengths[i]);
            Checks.due("count(0)", x.count(0), lengths[i]);
            Checks.due("at the end", x.at(lengths[i]), NOT_FOUND);
        }
    }

    // ---- would, again

    private static void positionOfWould() {
        Checks.sentence("19: INVALID_ARGUMENT if position is negative; NOT_FOUND if there would not be so many");
        ProofSheets x = new ProofSheets();
        Checks.due("would(-1), empty", x.would(-1), INVALID);
        Checks.due("would(0), empty", x.would(0), NOT_FOUND);
        x = Checks.listed("ab", "ins 2 c;");
        Checks.due("would(1), not answered", x.would(1), 'b');
        Checks.due("would(2), not answered", x.would(2), NOT_FOUND);
        x.answer(0, 0);
        Checks.due("would(-1)", x.would(-1), INVALID);
        Checks.due("would(0)", x.would(0), 'a');
        Checks.due("would(2)", x.would(2), 'c');
        Checks.due("would(3)", x.would(3), NOT_FOUND);
        for (int far : FAR) {
            Checks.due("would(" + far + ")", x.would(far), far < 0 ? INVALID : NOT_FOUND);
        }
    }

    private static void positionOfAgain() {
        Checks.sentence("20: Returns as would().");
        ProofSheets x = new ProofSheets();
        Checks.due("again(-1), empty", x.again(-1), INVALID);
        Checks.due("again(0), empty", x.again(0), NOT_FOUND);
        x = Checks.listed("ab", "ins 2 c;");
        Checks.due("again(1), not answered", x.again(1), 'b');
        Checks.due("again(2), not answered", x.again(2), NOT_FOUND);
        x.answer(0, 0);
        Checks.due("again(-1)", x.again(-1), INVALID);
        Checks.due("again(0)", x.again(0), 'a');
        Checks.due("again(2)", x.again(2), 'c');
        Checks.due("again(3)", x.again(3), NOT_FOUND);
        for (int far : FAR) {
            Checks.due("again(" + far + ")", x.again(far), far < 0 ? INVALID : NOT_FOUND);
        }
    }

    private static void acceptedMarksAlone() {
        Checks.sentence("19: as it would be, if the accepted marks were carried out now");
        ProofSheets x = Checks.listed("abcd", "cap 0;cap 1;cap 2;");
        x.answer(0, 1);
        x.answer(2, 0);
        Checks.wouldBe("one of each answer", x, "abCd");
        Checks.text("the text stays", x, "abcd");
        x.undo();
        Checks.wouldBe("the answer is undone", x, "abcd");
        ProofSheets y = Checks.listed("abcd", "del 0 4;");
        Checks.accept(y, 0);
        Checks.wouldBe("all goes", y, "");
    }

    private static void wouldOfALongerText() {
        Checks.sentence("19: NOT_FOUND if there would not be so many");
        ProofSheets x = Checks.listed(Checks.repeated('x', 99) + "y", "ins 0 a;ins 100 b;del 50 51;");
        Checks.accept(x, 0);
        Checks.due("would(99), 101 characters", x.would(99), 'x');
        Checks.due("would(100), 101 characters", x.would(100), NOT_FOUND);
        Checks.due("again(99), 101 characters", x.again(99), 'x');
        Checks.due("again(100), 101 characters", x.again(100), NOT_FOUND);
        Checks.accept(x, 2);
        Checks.due("would(99), 100 characters", x.would(99), 'y');
        Checks.due("again(99), 100 characters", x.again(99), 'y');
        Checks.accept(x, 1);
        Checks.due("would(99), 101 characters", x.would(99), 'y');
        Checks.due("would(100), 101 characters", x.would(100), NOT_FOUND);
        Checks.due("again(99), 101 characters", x.again(99), 'y');
        Checks.due("again(100), 101 characters", x.again(100), NOT_FOUND);
    }

    private static void againInTurn() {
        Checks.sentence("20: those with greater first positions first, of equal ones an ins last");
        String[] orders = {"ins 1 x;del 1 3;ins 3 y;cap 3;", "cap 3;ins 3 y;del 1 3;ins 1 x;",
                "del 1 3;cap 3;ins 1 x;ins 3 y;",
            "ins 3 y;ins 1 x;cap 3;del 1 3;"};
        for (String marks : orders) {
            ProofSheets x = Checks.listed("abcd", marks);
            Checks.accept(x, 0, 1, 2, 3);
            Checks.wouldBe(marks, x, "axyD");
        }
        ProofSheets y = Checks.listed("abcd", "ins 0 <;swap 0;ins 2 -;rep 2 z;cap 3;ins 4 >;");
        Checks.accept(y, 0, 1, 2, 3, 4, 5);
        Checks.wouldBe("ins at both ends", y, "<ba-zD>");
    }

    private static void againCutAtTheEndAlone() {
        Checks.sentence("20: at the end alone the text is cut to 100 characters");
        ProofSheets x = Checks.listed(Checks.repeated('x', 99) + "y", "ins 98 a;ins 99 b;del 0 2;");
        Checks.accept(x, 0, 1, 2);
        Checks.wouldBe("what an ins moves behind the end", x, Checks.repeated('x', 96) + "axby");
    }

    // ---- reader

    private static void argumentsOfReader() {
        Checks.sentence("21: INVALID_ARGUMENT if an argument is out of range");
        ProofSheets x = Checks.withText("a");
        for (int what = 0; what <= 3; what++) {
            Checks.due("reader(0, " + what + ")", x.reader(0, what), 0);
            Checks.due("reader(5, " + what + ")", x.reader(5, what), 0);
            Checks.due("reader(-1, " + what + ")", x.reader(-1, what), INVALID);
            Checks.due("reader(6, " + what + ")", x.reader(6, what), INVALID);
        }
        Checks.due("reader(0, -1)", x.reader(0, -1), INVALID);
        Checks.due("reader(0, 4)", x.reader(0, 4), INVALID);
        for (int none : FAR) {
            Checks.due("reader(" + none + ", 0)", x.reader(none, 0), INVALID);
            Checks.due("reader(0, " + none + ")", x.reader(0, none), INVALID);
        }
    }

    private static void sheetsOfAReader() {
        Checks.sentence("21: since the beginning: 0: sheets that were sent to the reader");
        ProofSheets x = Checks.inRoundOne("a");
        for (int sheet = 0; sheet < 16; sheet++) {
            Checks.due("reader(0, 0)", x.reader(0, 0), sheet);
            x.send(0);
            x.lose(sheet % 8);
            if (sheet == 7) {
                x.finish();
            }
        }
        Checks.due("reader(0, 0), two rounds", x.reader(0, 0), 16);
        Checks.due("a sheet too many", x.send(0), -3);
        Checks.due("reader(0, 0)", x.reader(0, 0), 16);
        Checks.due("reader(1, 0)", x.reader(1, 0), 0);
    }

    private static void marksOfAReader() {
        Checks.sentence("21: since the beginning: 1: marks that the reader made");
        ProofSheets x = Checks.withMarkText("abcdef", "cap 0;cap 1;");
        Checks.due("typed", x.reader(0, 1), 0);
        x.write(0);
        Checks.due("written", x.reader(0, 1), 2);
        x.write(0);
        Checks.due("not written, they are like", x.reader(0, 1), 2);
        x.lose(0);
        Checks.due("lost", x.reader(0, 1), 2);
        x.finish();
        Checks.due("lost for good", x.reader(0, 1), 2);
        x.send(0);
        x.write(0);
        Checks.due("written in the next round", x.reader(0, 1), 4);
        Checks.due("reader(1, 1)", x.reader(1, 1), 0);
    }

    private static void mergedMarksOfAReader() {
        Checks.sentence("21: since the beginning: 2: marks of merged sheets of the reader");
        ProofSheets x = Checks.inRoundOne("abcdef");
        Checks.back(x, 5, "cap 0;cap 1;");
        Checks.due("back", x.reader(5, 2), 0);
        x.merge(0);
        Checks.due("merged", x.reader(5, 2), 2);
        Checks.merged(x, 5, "cap 0;cap 1;cap 2;");
        Checks.due("united ones count", x.reader(5, 2), 5);
        x.lose(Checks.back(x, 5, "cap 3;"));
        Checks.due("lost ones do not", x.reader(5, 2), 5);
        Checks.answerAll(x);
        x.finish();
        Checks.due("in the next round", x.reader(5, 2), 5);
        Checks.merged(x, 5, "ask 0;");
        Checks.due("one more", x.reader(5, 2), 6);
        Checks.due("reader(4, 2)", x.reader(4, 2), 0);
        Checks.due("reader(5, 1)", x.reader(5, 1), 7);
    }

    private static void readerWithASheetOut() {
        Checks.sentence("21: 3: 1 if the reader has a sheet that is out, otherwise 0");
        ProofSheets x = Checks.inRoundOne("abc");
        Checks.due("none is sent", x.reader(2, 3), 0);
        x.send(2);
        Checks.due("one is out", x.reader(2, 3), 1);
        Checks.due("another reader", x.reader(1, 3), 0);
        x.bring(0);
        Checks.due("it is back", x.reader(2, 3), 0);
        x.send(2);
        Checks.due("a second one is out", x.reader(2, 3), 1);
        x.lose(1);
        Checks.due("it is lost", x.reader(2, 3), 0);
        x.find(1);
        Checks.due("it is found", x.reader(2, 3), 0);
        x.merge(0);
        x.merge(1);
        Checks.due("both are merged", x.reader(2, 3), 0);
        x.undo();
        x.undo();
        x.undo();
        x.undo();
        Checks.due("the second one is out again", x.reader(2, 3), 1);
    }
}
