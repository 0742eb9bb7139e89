/**
 * The promises 1 to 13: each value and each error that they name, at the last argument or state for which
 * it is due and at the first one for which it is not.
 */
public final class SheetCallsLimitsTest {
    private static final int INVALID = -1;
    private static final int NOT_POSSIBLE = -2;
    private static final int LIMIT = -3;
    private static final int NOT_FOUND = -4;
    private static final int OUT = 0;
    private static final int BACK = 1;
    private static final int LOST = 2;
    private static final int MERGED = 3;
    private static final int[] FAR = {-2, 64, 100, 256, 65536, Integer.MIN_VALUE, Integer.MAX_VALUE};

    public static void main(String[] args) {
        newObject();
        characterOfPut();
        putInRound0Alone();
        putIntoAFullText();
        beginInRound0Alone();
        beginWithAnEmptyText();
        readerOfSend();
        sendInRound0();
        sendToAReaderWithASheetOut();
        sendOfTheNinthSheet();
        numbersOfSheets();
        bringOfEachStatus();
        loseOfEachStatus();
        findOfEachStatus();
        mergeOfEachStatus();
        marksThatComeBack();
        unitedMarks();
        whatOfSheet();
        likeMarksOfASheet();
        marksOfASheetAgainstAcceptedOnes();
        whatOfWritten();
        markOfWritten();
        partsOfWritten();
        likeMarkOfWritten();
        undoOfAnEmptyHistory();
        undoOfFourChanges();
        undoDropsTheOldest();
        whatOfCount();
        countsAtTheirEnds();
        pairsOfMarks();
        positionOfAt();
        Checks.end("SheetCallsLimitsTest");
    }

    private static void newObject() {
        Checks.sentence("1: Creates an empty text in the round 0.");
        ProofSheets x = new ProofSheets();
        for (int what = 0; what <= 16; what++) {
            Checks.due("count(" + what + ")", x.count(what), what == 9 ? INVALID : 0);
        }
        Checks.due("at(0)", x.at(0), NOT_FOUND);
        Checks.due("would(0)", x.would(0), NOT_FOUND);
        Checks.due("again(0)", x.again(0), NOT_FOUND);
        Checks.due("next()", x.next(), NOT_FOUND);
        Checks.due("undo()", x.undo(), NOT_POSSIBLE);
        Checks.due("begin()", x.begin(), NOT_POSSIBLE);
        Checks.due("finish()", x.finish(), NOT_POSSIBLE);
        Checks.due("put(32)", x.put(32), 1);
    }

    // ---- put, begin, send

    private static void characterOfPut() {
        Checks.sentence("2: INVALID_ARGUMENT if character is out of range");
        ProofSheets x = new ProofSheets();
        Checks.due("put(31)", x.put(31), INVALID);
        Checks.due("put(127)", x.put(127), INVALID);
        Checks.due("count(0)", x.count(0), 0);
        Checks.due("put(32)", x.put(32), 1);
        Checks.due("put(126)", x.put(126), 2);
        for (int none : new int[] {0, -1, -97, 256 + 'a', 65536 + 'a', Integer.MIN_VALUE, Integer.MAX_VALUE}) {
            Checks.due("put(" + none + ")", x.put(none), INVALID);
        }
        Checks.due("count(0)", x.count(0), 2);
    }

    private static void putInRound0Alone() {
        Checks.sentence("2: NOT_POSSIBLE if the round is not 0");
        ProofSheets x = Checks.withText("a");
        Checks.due("in the round 0", x.put('b'), 2);
        x.begin();
        Checks.due("in the round 1", x.put('c'), NOT_POSSIBLE);
        x.finish();
        Checks.due("in the round 2", x.put('c'), NOT_POSSIBLE);
        x.undo();
        x.undo();
        Checks.due("in the round 0 again", x.put('c'), 3);
    }

    private static void putIntoAFullText() {
        Checks.sentence("2: LIMIT_REACHED if it has 100 characters");
        ProofSheets x = Checks.withText(Checks.repeated('x', 99));
        Checks.due("99 characters", x.put('a'), 100);
        Checks.due("100 characters", x.put('b'), LIMIT);
        x.undo();
        Checks.due("99 characters again", x.put('c'), 100);
        Checks.due("at(99)", x.at(99), 'c');
        Checks.due("100 characters again", x.put('d'), LIMIT);
    }

    private static void beginInRound0Alone() {
        Checks.sentence("3: NOT_POSSIBLE if the round is not 0");
        ProofSheets x = Checks.withText(Checks.repeated('x', 100));
        Checks.due("in the round 0", x.begin(), 100);
        Checks.due("in the round 1", x.begin(), NOT_POSSIBLE);
        x.finish();
        Checks.due("in the round 2", x.begin(), NOT_POSSIBLE);
        Checks.due("count(1)", x.count(1), 2);
    }

    private static void beginWithAnEmptyText() {
        Checks.sentence("3: NOT_POSSIBLE if the text is empty");
        ProofSheets x = new ProofSheets();
        Checks.due("empty", x.begin(), NOT_POSSIBLE);
        x.put('a');
        x.undo();
        Checks.due("empty, after an undo", x.begin(), NOT_POSSIBLE);
        x.put('a');
        Checks.due("one character", x.begin(), 1);
    }

    private static void readerOfSend() {
        Checks.sentence("4: INVALID_ARGUMENT if reader is out of range");
        ProofSheets x = Checks.inRoundOne("a");
        Checks.due("send(-1)", x.send(-1), INVALID);
        Checks.due("send(0)", x.send(0), 0);
        Checks.due("send(5)", x.send(5), 1);
        Checks.due("send(6)", x.send(6), INVALID);
        for (int none : FAR) {
            Checks.due("send(" + none + ")", x.send(none), INVALID);
        }
    }

    private static void sendInRound0() {
        Checks.sentence("4: NOT_POSSIBLE if the round is 0");
        ProofSheets x = Checks.withText("a");
        Checks.due("in the round 0", x.send(0), NOT_POSSIBLE);
        x.begin();
        Checks.due("in the round 1", x.send(0), 0);
        x.lose(0);
        x.finish();
        Checks.due("in the round 2", x.send(0), 0);
    }

    private static void sendToAReaderWithASheetOut() {
        Checks.sentence("4: NOT_POSSIBLE if the reader has a sheet that is out");
        ProofSheets x = Checks.inRoundOne("a");
        for (int reader = 0; reader < 6; reader++) {
            Checks.due("the first one", x.send(reader), reader);
        }
        for (int reader = 0; reader < 6; reader++) {
            Checks.due("a second one", x.send(reader), NOT_POSSIBLE);
        }
        x.bring(0);
        x.lose(5);
        Checks.due("the first one is back", x.send(0), 6);
        Checks.due("the first one is lost", x.send(5), 7);
        Checks.due("the second one is out", x.send(0), NOT_POSSIBLE);
    }

    private static void sendOfTheNinthSheet() {
        Checks.sentence("4: LIMIT_REACHED if there are 8 sheets");
        ProofSheets x = Checks.inRoundOne("a");
        for (int sheet = 0; sheet < 7; sheet++) {
            x.send(0);
            x.lose(sheet);
        }
        Checks.due("7 sheets", x.send(0), 7);
        Checks.due("8 sheets", x.send(1), LIMIT);
        x.lose(7);
        Checks.due("8 sheets, none is out", x.send(1), LIMIT);
        Checks.due("reader(1, 0)", x.reader(1, 0), 0);
        x.finish();
        Checks.due("the next round", x.send(1), 0);
    }

    // ---- bring, lose, find, merge

    /** The sheets 0 to 3 have the status of their number; each has as many marks as its number. */
    private static ProofSheets ofEachStatus() {
        ProofSheets x = Checks.inRoundOne("abcdef");
        String[] marks = {"", "cap 0;", "cap 0;cap 1;", "cap 0;cap 1;cap 2;"};
        for (int sheet = OUT; sheet <= MERGED; sheet++) {
            x.send(sheet);
            Checks.due("write", Checks.write(x, sheet, marks[sheet]), sheet);
        }
        x.bring(BACK);
        x.lose(LOST);
        x.bring(MERGED);
        x.merge(MERGED);
        for (int sheet = OUT; sheet <= MERGED; sheet++) {
            Checks.due("sheet(" + sheet + ", 1)", x.sheet(sheet, 1), sheet);
        }
        return x;
    }

    private static int moved(ProofSheets x, String call, int sheet) {
        switch (call) {
            case "bring": return x.bring(sheet);
            case "lose": return x.lose(sheet);
            case "find": return x.find(sheet);
            default: return x.merge(sheet);
        }
    }

    private static void numbersOfSheets() {
        Checks.sentence("5 to 8: INVALID_ARGUMENT: there is no such sheet");
        for (String call : new String[] {"bring", "lose", "find", "merge"}) {
            ProofSheets x = Checks.withText("abc");
            Checks.due(call + "(0) in the round 0", moved(x, call, 0), INVALID);
            x.begin();
            Checks.due(call + "(0), no sheet", moved(x, call, 0), INVALID);
            x.send(0);
            x.send(1);
            if (call.equals("find")) {
                x.lose(1);
            }
            if (call.equals("merge")) {
                x.bring(1);
            }
            Checks.due(call + "(-1)", moved(x, call, -1), INVALID);
            Checks.due(call + "(2)", moved(x, call, 2), INVALID);
            for (int none : FAR) {
                Checks.due(call + "(" + none + ")", moved(x, call, none), INVALID);
            }
            Checks.due(call + "(1)", moved(x, call, 1), 0);
        }
    }

    /** Of each status: what the call answers, and the status of the sheet then. */
    private static void ofEachStatus(String call, int[] answers, int[] becomes) {
        for (int status = OUT; status <= MERGED; status++) {
            ProofSheets x = ofEachStatus();
            Checks.due(call + ", status " + status, moved(x, call, status), answers[status]);
            for (int sheet = OUT; sheet <= MERGED; sheet++) {
                Checks.due("status of the sheet " + sheet + " then", x.sheet(sheet, 1), sheet == status
                        ? becomes[sheet] : sheet);
            }
        }
    }

    private static void bringOfEachStatus() {
        Checks.sentence("5: NOT_POSSIBLE if it is not out");
        ofEachStatus("bring", new int[] {0, NOT_POSSIBLE, NOT_POSSIBLE, NOT_POSSIBLE}, new int[] {BACK, BACK,
                LOST, MERGED});
    }

    private static void loseOfEachStatus() {
        Checks.sentence("6: NOT_POSSIBLE if it is neither out nor back");
        ofEachStatus("lose", new int[] {0, 1, NOT_POSSIBLE, NOT_POSSIBLE}, new int[] {LOST, LOST, LOST, MERGED});
    }

    private static void findOfEachStatus() {
        Checks.sentence("7: NOT_POSSIBLE if it is not lost");
        ofEachStatus("find", new int[] {NOT_POSSIBLE, NOT_POSSIBLE, 2, NOT_POSSIBLE}, new int[] {OUT, BACK, BACK,
                MERGED});
    }

    private static void mergeOfEachStatus() {
        Checks.sentence("8: NOT_POSSIBLE if it is not back");
        ofEachStatus("merge", new int[] {NOT_POSSIBLE, 1, NOT_POSSIBLE, NOT_POSSIBLE}, new int[] {OUT, MERGED,
                LOST, MERGED});
    }

    private static void marksThatComeBack() {
        Checks.sentence("5 to 7: Returns how many marks it has");
        String[] marks = {"", "ask 0;", "ask 0;ask 1;ask 2;ask 3;ask 4;ask 5;ask 6;ask 7;"};
        int[] many = {0, 1, 8};
        for (int i = 0; i < 3; i++) {
            ProofSheets x = Checks.withMarkText("0123456789", marks[i]);
            x.write(0);
            Checks.due("lose, out", x.lose(0), many[i]);
            Checks.due("find", x.find(0), many[i]);
            Checks.due("lose, back", x.lose(0), many[i]);
            x.send(1);
            x.write(1);
            Checks.due("bring", x.bring(1), many[i]);
            Checks.due("merge", x.merge(1), 0);
        }
    }

    private static void unitedMarks() {
        Checks.sentence("8: Returns how many of its marks are united with ones of the list");
        String eight = "cap 0;cap 1;cap 2;cap 3;cap 4;cap 5;cap 6;cap 7;";
        ProofSheets x = Checks.inRoundOne("0123456789");
        Checks.due("no marks, an empty list", Checks.merged(x, 0, ""), 0);
        Checks.due("eight, an empty list", Checks.merged(x, 0, eight), 0);
        Checks.due("no marks", Checks.merged(x, 0, ""), 0);
        Checks.due("eight, all are united", Checks.merged(x, 1, eight), 8);
        Checks.due("one is not united", Checks.merged(x, 1, "cap 7;cap 8;cap 0;"), 2);
        Checks.due("one that is new since then", Checks.merged(x, 2, "ask 8;cap 8;"), 1);
        Checks.due("count(4)", x.count(4), 10);
        Checks.due("count(11)", x.count(11), 11);
    }

    // ---- sheet, written

    private static void whatOfSheet() {
        Checks.sentence("9: INVALID_ARGUMENT if an argument is out of range");
        ProofSheets x = Checks.inRoundOne("abc");
        Checks.due("sheet(0, 0), no sheet", x.sheet(0, 0), INVALID);
        x.send(3);
        x.send(5);
        Checks.due("sheet(0, 0)", x.sheet(0, 0), 3);
        Checks.due("sheet(1, 0)", x.sheet(1, 0), 5);
        Checks.due("sheet(-1, 0)", x.sheet(-1, 0), INVALID);
        Checks.due("sheet(2, 0)", x.sheet(2, 0), INVALID);
        Checks.due("sheet(0, -1)", x.sheet(0, -1), INVALID);
        Checks.due("sheet(0, 4)", x.sheet(0, 4), 0);
        Checks.due("sheet(0, 5)", x.sheet(0, 5), INVALID);
        Checks.due("sheet(2, 5)", x.sheet(2, 5), INVALID);
        for (int none : FAR) {
            Checks.due("sheet(" + none + ", 0)", x.sheet(none, 0), INVALID);
            Checks.due("sheet(0, " + none + ")", x.sheet(0, none), INVALID);
        }
    }

    private static void likeMarksOfASheet() {
        Checks.sentence("9: how many of its marks are like one of the list");
        ProofSheets x = Checks.inRoundOne("abcdef");
        Checks.back(x, 0, "cap 0;cap 1;ask 2;");
        Checks.due("an empty list", x.sheet(0, 3), 0);
        Checks.merged(x, 1, "cap 1;cap 2;");
        Checks.due("one of three", x.sheet(0, 3), 1);
        x.answer(0, 1);
        Checks.due("like a refused one", x.sheet(0, 3), 1);
        x.merge(0);
        Checks.due("all, it is merged", x.sheet(0, 3), 3);
        Checks.due("one of two, merged before", x.sheet(1, 3), 2);
        x.undo();
        Checks.due("one of three, the merging is undone", x.sheet(0, 3), 1);
    }

    private static void marksOfASheetAgainstAcceptedOnes() {
        Checks.sentence("9: how many of its marks stand against an accepted one of the list");
        ProofSheets x = Checks.listed("abcdef", "rep 0 x;rep 1 x;cap 4;");
        Checks.back(x, 1, "del 0 2;rep 0 y;rep 0 x;ask 0;ins 1 x;cap 5;");
        Checks.due("none is answered", x.sheet(1, 4), 0);
        x.answer(1, 1);
        Checks.due("one is refused", x.sheet(1, 4), 0);
        x.answer(0, 0);
        Checks.due("one is accepted", x.sheet(1, 4), 2);
        x.undo();
        x.undo();
        Checks.accept(x, 0, 1);
        Checks.due("a mark against two accepted ones counts once", x.sheet(1, 4), 2);
        x.merge(1);
        Checks.due("its own marks are no accepted ones", x.sheet(1, 4), 2);
        Checks.due("the first sheet", x.sheet(0, 4), 0);
    }

    private static void whatOfWritten() {
        Checks.sentence("10: INVALID_ARGUMENT if an argument is out of range (mark: negative)");
        ProofSheets x = Checks.inRoundOne("abc");
        Checks.due("written(0, 0, 0), no sheet", x.written(0, 0, 0), INVALID);
        x.send(0);
        x.send(1);
        Checks.write(x, 1, "del 0 1;");
        Checks.due("written(1, 0, 0)", x.written(1, 0, 0), 0);
        Checks.due("written(2, 0, 0)", x.written(2, 0, 0), INVALID);
        Checks.due("written(-1, 0, 0)", x.written(-1, 0, 0), INVALID);
        Checks.due("written(1, -1, 0)", x.written(1, -1, 0), INVALID);
        Checks.due("written(1, 0, -1)", x.written(1, 0, -1), INVALID);
        Checks.due("written(1, 0, 4)", x.written(1, 0, 4), NOT_FOUND);
        Checks.due("written(1, 0, 5)", x.written(1, 0, 5), INVALID);
        for (int none : FAR) {
            Checks.due("written(" + none + ", 0, 0)", x.written(none, 0, 0), INVALID);
            Checks.due("written(1, 0, " + none + ")", x.written(1, 0, none), INVALID);
            Checks.due("written(1, " + none + ", 0)", x.written(1, none, 0), none < 0 ? INVALID : NOT_FOUND);
        }
    }

    private static void markOfWritten() {
        Checks.sentence("10: NOT_FOUND if it has not so many");
        ProofSheets x = Checks.withMarkText("0123456789", "");
        Checks.due("written(0, 0, 0), no marks", x.written(0, 0, 0), NOT_FOUND);
        Checks.write(x, 0, "ask 0;");
        Checks.due("written(0, 0, 0)", x.written(0, 0, 0), 5);
        Checks.due("written(0, 1, 0)", x.written(0, 1, 0), NOT_FOUND);
        Checks.write(x, 0, "cap 0;cap 1;cap 2;cap 3;cap 4;cap 5;cap 6;");
        Checks.due("written(0, 7, 1)", x.written(0, 7, 1), 6);
        Checks.due("written(0, 8, 1)", x.written(0, 8, 1), NOT_FOUND);
        Checks.due("written(0, 8, 5)", x.written(0, 8, 5), INVALID);
        Checks.due("written(0, 8, -1)", x.written(0, 8, -1), INVALID);
        Checks.due("written(1, 8, 0)", x.written(1, 8, 0), INVALID);
        x.undo();
        Checks.due("written(0, 1, 0), undone", x.written(0, 1, 0), NOT_FOUND);
    }

    private static void partsOfWritten() {
        Checks.sentence("10: NOT_FOUND for 2 if it is no del, for 3 if it is neither ins nor rep");
        ProofSheets x = Checks.withMarkText("0123456789", "del 1 3;ins 1  ;rep 1 ~;swap 1;cap 1;ask 1;");
        x.write(0);
        for (int kind = 0; kind < 6; kind++) {
            Checks.due("kind " + kind, x.written(0, kind, 0), kind);
            Checks.due("first position of kind " + kind, x.written(0, kind, 1), 1);
            Checks.due("second position of kind " + kind, x.written(0, kind, 2), kind == 0 ? 3 : NOT_FOUND);
            Checks.due("character of kind " + kind, x.written(0, kind, 3), kind == 1 ? 32 : kind == 2
                    ? 126 : NOT_FOUND);
        }
        ProofSheets y = Checks.withMarkText(Checks.repeated('x', 100),
                "del 0 100;del 99 100;ins 100 x;rep 99 x;swap 98;");
        y.write(0);
        Checks.due("the first position of del 0 100", y.written(0, 0, 1), 0);
        Checks.due("the second position of del 0 100", y.written(0, 0, 2), 100);
        Checks.due("the first position of del 99 100", y.written(0, 1, 1), 99);
        Checks.due("the position of ins 100", y.written(0, 2, 1), 100);
        Checks.due("the position of rep 99", y.written(0, 3, 1), 99);
        Checks.due("the position of swap 98", y.written(0, 4, 1), 98);
    }

    private static void likeMarkOfWritten() {
        Checks.sentence("10: NOT_FOUND for 4 if there is none");
        ProofSheets x = Checks.inRoundOne("abcdef");
        Checks.back(x, 0, "cap 0;cap 1;");
        Checks.due("an empty list", x.written(0, 0, 4), NOT_FOUND);
        Checks.merged(x, 1, "ask 0;cap 1;");
        Checks.due("not of the list", x.written(0, 0, 4), NOT_FOUND);
        Checks.due("like the last one", x.written(0, 1, 4), 1);
        Checks.due("like the first one", x.written(1, 0, 4), 0);
        x.merge(0);
        Checks.due("it is new in the list", x.written(0, 0, 4), 2);
        Checks.due("it is united", x.written(0, 1, 4), 1);
        x.undo();
        Checks.due("the merging is undone", x.written(0, 0, 4), NOT_FOUND);
    }

    // ---- undo

    private static void undoOfAnEmptyHistory() {
        Checks.sentence("11: NOT_POSSIBLE if it is empty");
        ProofSheets x = new ProofSheets();
        Checks.due("a new object", x.undo(), NOT_POSSIBLE);
        x.type('a');
        Checks.due("after a call that is no change", x.undo(), NOT_POSSIBLE);
        x.put('a');
        Checks.due("after a change", x.undo(), 0);
        Checks.due("undone", x.undo(), NOT_POSSIBLE);
        Checks.due("count(7), the mark text stays", x.count(7), 1);
    }

    private static void undoOfFourChanges() {
        Checks.sentence("11: Returns the number of states that are left in the history");
        ProofSheets x = Checks.withText("abcd");
        Checks.due("count(6)", x.count(6), 4);
        for (int left = 3; left >= 0; left--) {
            Checks.due("undo()", x.undo(), left);
            Checks.due("count(6)", x.count(6), left);
            Checks.text("undone", x, "abcd".substring(0, left));
        }
        Checks.due("undo()", x.undo(), NOT_POSSIBLE);
        Checks.due("put after all is undone", x.put('z'), 1);
        Checks.due("count(6)", x.count(6), 1);
    }

    private static void undoDropsTheOldest() {
        Checks.sentence("if there are 5 states then, the oldest one is dropped");
        ProofSheets x = Checks.withText("abcde");
        Checks.due("count(6)", x.count(6), 4);
        x.undo();
        x.put('f');
        x.put('g');
        Checks.due("count(6)", x.count(6), 4);
        for (int left = 3; left >= 0; left--) {
            Checks.due("undo()", x.undo(), left);
        }
        Checks.text("the states behind the oldest two are dropped", x, "ab");
        Checks.due("undo()", x.undo(), NOT_POSSIBLE);
    }

    // ---- count, at

    private static void whatOfCount() {
        Checks.sentence("12: INVALID_ARGUMENT if what is out of range");
        ProofSheets x = new ProofSheets();
        int[] allowed = {0, 8, 10, 16};
        for (int what : allowed) {
            Checks.due("count(" + what + ")", x.count(what), 0);
        }
        for (int none : new int[] {-1, 9, 17, 18}) {
            Checks.due("count(" + none + ")", x.count(none), INVALID);
        }
        for (int none : FAR) {
            Checks.due("count(" + none + ")", x.count(none), INVALID);
        }
    }

    private static void countsAtTheirEnds() {
        Checks.sentence("12: 0: the length of the text; 1: the round; 2: sheets; 3: sheets that are out; ..");
        ProofSheets x = Checks.inRoundOne(Checks.repeated('x', 100));
        Checks.due("count(0)", x.count(0), 100);
        for (int reader = 0; reader < 6; reader++) {
            Checks.due("count(2)", x.count(2), reader);
            Checks.due("count(3)", x.count(3), reader);
            x.send(reader);
        }
        Checks.due("count(2)", x.count(2), 6);
        Checks.due("count(3)", x.count(3), 6);
        x.bring(0);
        x.lose(1);
        x.bring(2);
        x.merge(2);
        Checks.due("count(2)", x.count(2), 6);
        Checks.due("count(3)", x.count(3), 3);
        Checks.due("count(6)", x.count(6), 4);
        Checks.typed(x, Checks.repeated('a', 80));
        Checks.due("count(7)", x.count(7), 80);
    }

    private static void pairsOfMarks() {
        Checks.sentence("12: 8: pairs of marks of the list that stand against each other");
        ProofSheets x = Checks.inRoundOne("abcdef");
        Checks.merged(x, 0, "rep 1 a;");
        Checks.due("one mark", x.count(8), 0);
        Checks.merged(x, 0, "rep 1 b;ask 1;");
        Checks.due("one pair", x.count(8), 1);
        Checks.merged(x, 0, "rep 1 c;rep 1 d;rep 1 e;");
        Checks.due("five that stand against each other", x.count(8), 10);
        x.answer(0, 0);
        x.answer(1, 1);
        Checks.due("answers alter nothing", x.count(8), 10);
    }

    private static void positionOfAt() {
        Checks.sentence("13: INVALID_ARGUMENT if position is negative; NOT_FOUND if there are not so many");
        ProofSheets x = new ProofSheets();
        Checks.due("at(0), empty", x.at(0), NOT_FOUND);
        Checks.due("at(-1), empty", x.at(-1), INVALID);
        x.put('a');
        x.put('b');
        Checks.due("at(-1)", x.at(-1), INVALID);
        Checks.due("at(0)", x.at(0), 'a');
        Checks.due("at(1)", x.at(1), 'b');
        Checks.due("at(2)", x.at(2), NOT_FOUND);
        for (int far : FAR) {
            Checks.due("at(" + far + ")", x.at(far), far < 0 ? INVALID : NOT_FOUND);
        }
        ProofSheets full = Checks.withText(Checks.repeated('x', 99) + "y");
        Checks.due("at(99)", full.at(99), 'y');
        Checks.due("at(100)", full.at(100), NOT_FOUND);
    }
}
