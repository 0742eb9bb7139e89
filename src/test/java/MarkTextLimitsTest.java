/**
 * What the terms of the document say of mark texts, and the promises 22 to 25: each sentence that names
 * a boundary, at the last value that is allowed and at the first one that is not.
 */
public final class MarkTextLimitsTest {
    private static final int INVALID = -1;
    private static final int NOT_POSSIBLE = -2;
    private static final int LIMIT = -3;
    private static final int NOT_FOUND = -4;
    private static final int NO_SUCH_WORD = 1;
    private static final int BAD_FORM = 2;
    private static final int OUT_OF_RANGE = 3;
    private static final int LIKE = 4;
    private static final int NO_ROOM = 5;
    private static final String EIGHT = "cap 0;cap 1;cap 2;cap 3;cap 4;cap 5;cap 6;cap 7;";

    public static void main(String[] args) {
        markTextOfAtMost80();
        markTextIsInitiallyEmpty();
        positionsOf1To3Digits();
        charactersFrom32To126();
        signsOfAMark();
        eachMarkIsFollowedByASemicolon();
        wordIsAllTheSmallLetters();
        thereAreSixWords();
        positionOfTheFault();
        firstMarkThatIsNotPossible();
        noSuchWordAppliesFirst();
        formAppliesBeforeRange();
        rangeAppliesBeforeRoom();
        likenessAppliesBeforeRoom();
        likeOneOnTheSheet();
        likeOneAheadInTheMarkText();
        roomOnTheSheet();
        toldWhetherItIsOutOrNot();
        characterOfType();
        fullMarkText();
        clearedMarkText();
        sheetOfFault();
        whatOfFault();
        noFault();
        writtenMarks();
        emptyMarkTextWritten();
        sheetOfWrite();
        writeThatIsNotPossible();
        Checks.end("MarkTextLimitsTest");
    }

    /** The fault of the mark text for the sheet 0; position and reason are NOT_FOUND if there is none. */
    private static void faultIs(ProofSheets x, String marks, int position, int reason) {
        Checks.typed(x, marks);
        Checks.due("position of the fault of \"" + marks + "\"", x.fault(0, 0), position);
        Checks.due("reason of the fault of \"" + marks + "\"", x.fault(0, 1), reason);
    }

    /** The same in a text of ten characters and on an empty sheet, which is written on then. */
    private static void reasonIs(String marks, int position, int reason) {
        ProofSheets x = Checks.withMarkText("0123456789", "");
        faultIs(x, marks, position, reason);
        if (reason != NOT_FOUND) {
            Checks.due("write \"" + marks + "\"", x.write(0), NOT_POSSIBLE);
        } else {
            Checks.holds("write \"" + marks + "\"", x.write(0) >= 0);
        }
    }

    private static void possible(String... marks) {
        for (String mark : marks) {
            reasonIs(mark, NOT_FOUND, NOT_FOUND);
        }
    }

    private static void faulty(int reason, String... marks) {
        for (String mark : marks) {
            reasonIs(mark, 0, reason);
        }
    }

    // ---- the terms

    private static void markTextOfAtMost80() {
        Checks.sentence("There is a mark text of at most 80 characters");
        String longest = "rep 001 a;rep 002 b;rep 003 c;rep 004 d;rep 005 e;rep 006 f;rep 007 g;rep 008 h;";
        ProofSheets x = Checks.withMarkText("0123456789", longest.substring(0, 79));
        Checks.due("79 characters: the last mark has no \";\"", x.fault(0, 0), 70);
        Checks.due("the 80th character", x.type(';'), 80);
        Checks.due("the 81st character", x.type(';'), LIMIT);
        Checks.due("count(7)", x.count(7), 80);
        Checks.due("80 characters have no fault", x.fault(0, 0), NOT_FOUND);
        Checks.due("write", x.write(0), 8);
        Checks.due("the last mark", x.written(0, 7, 3), 'h');
        Checks.due("clearText()", x.clearText(), 80);
    }

    private static void markTextIsInitiallyEmpty() {
        Checks.sentence("There is a mark text of at most 80 characters, initially empty.");
        ProofSheets x = new ProofSheets();
        Checks.due("count(7)", x.count(7), 0);
        Checks.due("clearText()", x.clearText(), 0);
        ProofSheets y = Checks.inRoundOne("a");
        y.send(0);
        Checks.due("fault(0, 0)", y.fault(0, 0), NOT_FOUND);
        Checks.due("write(0)", y.write(0), 0);
    }

    private static void positionsOf1To3Digits() {
        Checks.sentence("a position (1 to 3 digits, zeros may stand ahead)");
        possible("cap 7;", "cap 07;", "cap 007;", "ins 010 x;", "del 000 001;", "del 9 010;");
        faulty(BAD_FORM, "cap ;", "cap 0007;", "cap 0000;", "ins  x;", "ins 0010 x;", "swap ;", "swap 0001;", "ask ;",
                "ask 0009;", "rep ;;", "rep 0001 x;", "del  1;", "del 1 ;", "del 0000 1;", "del 0 0001;");
        faulty(OUT_OF_RANGE, "cap 999;", "del 000 999;", "ins 999 x;");
        faulty(BAD_FORM, "cap 1000;", "del 0 1000;", "cap /;", "cap :;", "cap 1:;", "cap 1/;", "del 0 1:;",
                "cap -1;");
    }

    private static void charactersFrom32To126() {
        Checks.sentence("with ins and rep a blank and a character (any one from 32 to 126, also \";\" and a blank)");
        for (String word : new String[] {"ins", "rep"}) {
            for (int code = 32; code <= 126; code++) {
                ProofSheets x = Checks.withMarkText("ab", word + " 1 " + (char) code + ";");
                Checks.due(word + " with the character " + code, x.write(0), 1);
                Checks.due("written(0, 0, 3)", x.written(0, 0, 3), code);
            }
            faulty(BAD_FORM, word + " 1", word + " 1 ", word + " 1 x", word + " 1 ;", word + " 1;", word + " 1x;",
                    word + " 1 xy;", word + " 1  x;");
        }
    }

    private static void signsOfAMark() {
        Checks.sentence("a word, a blank and a position, with del another blank and position");
        faulty(BAD_FORM, "cap", "cap;", "cap1;", "cap  1;", "cap!1;", "cap 1 ;", "cap 1 2;", "swap 1 2;",
                "ask 1 x;", "del 1;", "del 1", "del 1 2 ;", "del 1  2;", "del  1 2;", "del 1-2;", "del 1 2 3;",
                        "del1 2;",
                "ins1 x;", "rep 1x;", "del", "del ", "del 1 ");
    }

    private static void eachMarkIsFollowedByASemicolon() {
        Checks.sentence("2 if it is not of this form otherwise (also if its \";\" is missing)");
        for (String mark : new String[] {"del 0 1", "ins 1 x", "rep 1 x", "swap 1", "cap 1", "ask 1"}) {
            possible(mark + ";");
            faulty(BAD_FORM, mark, mark + ":", mark + " ;", mark + "cap 2;");
            reasonIs("cap 3;" + mark, 6, BAD_FORM);
        }
    }

    private static void wordIsAllTheSmallLetters() {
        Checks.sentence("A word is all the small letters that stand there.");
        faulty(NO_SUCH_WORD, "capa 1;", "capz 1;", "acap 1;", "zcap 1;", "ca 1;", "c 1;", "capask 1;",
                "delins 1;", "swapp 0;",
                "swa 0;", "dels 0 1;", "insx", "asks 1;", "repx", "del".repeat(26));
        faulty(BAD_FORM, "cap` 1;", "cap{ 1;", "capA 1;", "capZ 1;", "cap@ 1;", "cap[ 1;", "cap0 1;", "del",
                "swap", "ask;");
        faulty(NO_SUCH_WORD, "`cap 1;", "{cap 1;", "Cap 1;", "CAP 1;", "cAp 1;", "caP 1;");
    }

    private static void thereAreSixWords() {
        Checks.sentence("1 if there is no such word");
        possible("del 0 1;", "ins 0 x;", "rep 0 x;", "swap 0;", "cap 0;", "ask 0;");
        faulty(NO_SUCH_WORD, ";", " ", " cap 1;", "0", "~", "a", "z", "put 1;", "adl 0 1;", "dal 0 1;",
                "dea 0 1;", "sap 0;", "caq 1;",
                "inr 0 x;", "req 0 x;", "asj 0;", "swaq 0;");
    }

    private static void positionOfTheFault() {
        Checks.sentence("the position, from 0, of the first character of the first mark that is not possible");
        reasonIs("x", 0, NO_SUCH_WORD);
        reasonIs("cap 1;x", 6, NO_SUCH_WORD);
        reasonIs("cap 1; cap 2;", 6, NO_SUCH_WORD);
        reasonIs("cap 1;;", 6, NO_SUCH_WORD);
        reasonIs("rep 1 ;;cap 2", 8, BAD_FORM);
        reasonIs("ins 1  ;del 1 2;swap 9;", 16, OUT_OF_RANGE);
        reasonIs("del 0 1;ins 010 x;cap 003;", NOT_FOUND, NOT_FOUND);
        reasonIs("swap 1;swap 01;", 7, LIKE);
        ProofSheets x = Checks.withMarkText("0123456789", "");
        String padded = "rep 001 a;rep 002 b;rep 003 c;rep 004 d;rep 005 e;rep 006 f;rep 007 g;rep 8 h;";
        faultIs(x, padded + "x", 78, NO_SUCH_WORD);
        faultIs(x, "rep 008 i;" + padded.substring(10) + "d", 78, NO_SUCH_WORD);
        faultIs(x, "cap 1;" + padded.substring(10) + "cap 10", 74, BAD_FORM);
    }

    private static void firstMarkThatIsNotPossible() {
        Checks.sentence("of the first character of the first mark that is not possible");
        reasonIs("cap 10;x", 0, OUT_OF_RANGE);
        reasonIs("cap 1;cap 1;cap 10;x", 6, LIKE);
        reasonIs("cap 1;cap;cap 1;", 6, BAD_FORM);
        reasonIs("cap 10;cap 10;", 0, OUT_OF_RANGE);
        reasonIs(EIGHT + "cap 8;cap 10;", 48, NO_ROOM);
        reasonIs(EIGHT + "cap 8;cap 8;", 48, NO_ROOM);
    }

    private static void noSuchWordAppliesFirst() {
        Checks.sentence("the first one of these that applies");
        faulty(NO_SUCH_WORD, "capp 10", "capp 10;", "xyz 1 1;");
        ProofSheets full = Checks.withMarkText("0123456789", EIGHT);
        full.write(0);
        faultIs(full, "capp 0;", 0, NO_SUCH_WORD);
        faultIs(full, "capp 8;", 0, NO_SUCH_WORD);
    }

    private static void formAppliesBeforeRange() {
        Checks.sentence("the first one of these that applies");
        faulty(BAD_FORM, "cap 10", "cap 10x;", "del 3 3", "del 11 12x", "ins 11 ;", "swap 9 ;");
        reasonIs("cap 1;cap 1", 6, BAD_FORM);
        ProofSheets full = Checks.withMarkText("0123456789", EIGHT);
        full.write(0);
        faultIs(full, "cap 0", 0, BAD_FORM);
        faultIs(full, "cap 8", 0, BAD_FORM);
        faultIs(full, "cap 10", 0, BAD_FORM);
    }

    private static void rangeAppliesBeforeRoom() {
        Checks.sentence("3 if a position is out of its range (with del also if a is not less than b)");
        faulty(OUT_OF_RANGE, "cap 10;", "ask 10;", "rep 10 x;", "swap 9;", "ins 11 x;", "del 0 11;", "del 1 1;",
                "del 2 1;");
        possible("cap 9;", "ask 9;", "rep 9 x;", "swap 8;", "ins 10 x;", "del 0 10;", "del 1 2;");
        ProofSheets full = Checks.withMarkText("0123456789", EIGHT);
        full.write(0);
        faultIs(full, "cap 9;", 0, NO_ROOM);
        faultIs(full, "cap 10;", 0, OUT_OF_RANGE);
    }

    private static void likenessAppliesBeforeRoom() {
        Checks.sentence("the first one of these that applies");
        ProofSheets full = Checks.withMarkText("0123456789", EIGHT);
        full.write(0);
        faultIs(full, "cap 7;", 0, LIKE);
        faultIs(full, "cap 8;", 0, NO_ROOM);
        reasonIs(EIGHT + "cap 0;", 48, LIKE);
        reasonIs(EIGHT + "cap 7;", 48, LIKE);
        reasonIs(EIGHT + "ask 7;", 48, NO_ROOM);
    }

    private static void likeOneOnTheSheet() {
        Checks.sentence("4 if a like mark is on the sheet already");
        ProofSheets x = Checks.withMarkText("0123456789", "del 1 3;ins 1 x;rep 1 x;swap 1;cap 1;ask 1;");
        Checks.due("write", x.write(0), 6);
        for (String mark : new String[] {"del 1 3;", "ins 1 x;", "rep 1 x;", "swap 1;", "cap 1;", "ask 1;"}) {
            faultIs(x, mark, 0, LIKE);
            faultIs(x, mark.replace("1", "01"), 0, LIKE);
        }
        for (String mark : new String[] {"del 1 2;", "del 2 3;", "ins 2 x;", "ins 1 y;", "rep 2 x;", "rep 1 y;",
                "swap 2;"}) {
            faultIs(x, mark, NOT_FOUND, NOT_FOUND);
        }
        faultIs(x, "cap 2;ask 2;", NOT_FOUND, NOT_FOUND);
        x.undo();
        faultIs(x, "cap 1;", NOT_FOUND, NOT_FOUND);
    }

    private static void likeOneAheadInTheMarkText() {
        Checks.sentence("4 if a like mark is on the sheet already, or ahead in the mark text");
        for (String mark : new String[] {"del 1 3;", "ins 1 x;", "rep 1 x;", "swap 1;", "cap 1;", "ask 1;"}) {
            reasonIs(mark + mark, mark.length(), LIKE);
            reasonIs(mark + "cap 7;" + mark, mark.length() + 6, LIKE);
        }
        possible("del 1 3;del 1 4;del 2 3;", "ins 1 x;ins 1 y;ins 2 x;rep 1 x;rep 1 y;", "cap 1;ask 1;swap 1;cap 2;");
    }

    private static void roomOnTheSheet() {
        Checks.sentence("5 if there is no room on the sheet (those ahead in the mark text count)");
        reasonIs(EIGHT, NOT_FOUND, NOT_FOUND);
        reasonIs(EIGHT + "ask 0;", 48, NO_ROOM);
        ProofSheets x = Checks.withMarkText("0123456789", "ask 0;ask 1;ask 2;");
        x.write(0);
        faultIs(x, "cap 0;cap 1;cap 2;cap 3;cap 4;", NOT_FOUND, NOT_FOUND);
        faultIs(x, "cap 0;cap 1;cap 2;cap 3;cap 4;cap 5;", 30, NO_ROOM);
        faultIs(x, EIGHT, 30, NO_ROOM);
        Checks.due("five more marks", Checks.write(x, 0, "cap 0;cap 1;cap 2;cap 3;cap 4;"), 5);
        faultIs(x, "cap 5;", 0, NO_ROOM);
        faultIs(x, "", NOT_FOUND, NOT_FOUND);
    }

    private static void toldWhetherItIsOutOrNot() {
        Checks.sentence("It is told for a sheet, whose marks count, whether it is out or not.");
        ProofSheets x = Checks.withMarkText("0123456789", "cap 0;");
        x.write(0);
        x.send(1);
        for (int status = 0; status < 4; status++) {
            Checks.due("sheet(0, 1)", x.sheet(0, 1), status);
            Checks.due("fault of a like mark, status " + status, x.fault(0, 1), LIKE);
            Checks.due("its position, status " + status, x.fault(0, 0), 0);
            Checks.due("fault on another sheet", x.fault(1, 1), NOT_FOUND);
            if (status == 0) {
                x.bring(0);
            } else if (status == 1) {
                x.lose(0);
            } else if (status == 2) {
                x.find(0);
                x.merge(0);
            }
        }
        Checks.typed(x, "cap 1;");
        Checks.due("no fault on a merged sheet", x.fault(0, 0), NOT_FOUND);
    }

    // ---- promises 22 to 25

    private static void characterOfType() {
        Checks.sentence("22: INVALID_ARGUMENT if character is out of range");
        ProofSheets x = new ProofSheets();
        Checks.due("type(31)", x.type(31), INVALID);
        Checks.due("type(32)", x.type(32), 1);
        Checks.due("type(126)", x.type(126), 2);
        Checks.due("type(127)", x.type(127), INVALID);
        for (int none : new int[] {0, -1, 256 + 'a', 65536 + 'a', Integer.MIN_VALUE, Integer.MAX_VALUE}) {
            Checks.due("type(" + none + ")", x.type(none), INVALID);
        }
        Checks.due("count(7)", x.count(7), 2);
    }

    private static void fullMarkText() {
        Checks.sentence("22: LIMIT_REACHED if it has 80 characters");
        ProofSheets x = new ProofSheets();
        for (int length = 1; length <= 80; length++) {
            Checks.due("type", x.type('a'), length);
        }
        Checks.due("the 81st character", x.type('a'), LIMIT);
        Checks.due("the 81st character, out of range", x.type(127), INVALID);
        Checks.due("clearText()", x.clearText(), 80);
        Checks.due("type", x.type('a'), 1);
    }

    private static void clearedMarkText() {
        Checks.sentence("23: Returns the length it had.");
        ProofSheets x = Checks.withMarkText("abc", "c");
        Checks.due("clearText(), one character", x.clearText(), 1);
        Checks.due("count(7)", x.count(7), 0);
        Checks.due("clearText(), empty", x.clearText(), 0);
        Checks.due("fault(0, 0)", x.fault(0, 0), NOT_FOUND);
        Checks.typed(x, "ask 0;");
        Checks.due("nothing of the old one is left", x.fault(0, 0), NOT_FOUND);
        Checks.due("write(0)", x.write(0), 1);
    }

    private static void sheetOfFault() {
        Checks.sentence("24: INVALID_ARGUMENT if an argument is out of range");
        ProofSheets x = Checks.withText("abc");
        Checks.due("fault(0, 0) in the round 0", x.fault(0, 0), INVALID);
        x.begin();
        Checks.due("fault(0, 0), no sheet", x.fault(0, 0), INVALID);
        x.send(0);
        x.send(1);
        x.type('x');
        Checks.due("fault(1, 0)", x.fault(1, 0), 0);
        for (int none : new int[] {-1, 2, 8, 256, Integer.MIN_VALUE, Integer.MAX_VALUE}) {
            Checks.due("fault(" + none + ", 0)", x.fault(none, 0), INVALID);
        }
        x.lose(0);
        x.lose(1);
        x.finish();
        Checks.due("fault(0, 0), the round is over", x.fault(0, 0), INVALID);
    }

    private static void whatOfFault() {
        Checks.sentence("24: what: 0: its position; 1: its reason");
        ProofSheets x = Checks.withMarkText("abc", "cap 0;cap 3;");
        Checks.due("fault(0, 0)", x.fault(0, 0), 6);
        Checks.due("fault(0, 1)", x.fault(0, 1), OUT_OF_RANGE);
        for (int none : new int[] {-1, 2, Integer.MIN_VALUE, Integer.MAX_VALUE}) {
            Checks.due("fault(0, " + none + ")", x.fault(0, none), INVALID);
        }
    }

    private static void noFault() {
        Checks.sentence("24: NOT_FOUND if the mark text has no fault (also if it is empty)");
        ProofSheets x = Checks.withMarkText("abc", "");
        for (int what = 0; what < 2; what++) {
            x.clearText();
            Checks.due("empty", x.fault(0, what), NOT_FOUND);
            Checks.typed(x, "cap 0;");
            Checks.due("without a fault", x.fault(0, what), NOT_FOUND);
        }
        Checks.due("without a fault, what 2", x.fault(0, 2), INVALID);
        Checks.due("without a fault, no sheet", x.fault(1, 0), INVALID);
        x.type('c');
        Checks.due("with a fault", x.fault(0, 0), 6);
    }

    private static void writtenMarks() {
        Checks.sentence("25: Returns how many there are in it");
        ProofSheets x = Checks.withMarkText("0123456789", "cap 0;");
        Checks.due("one mark", x.write(0), 1);
        Checks.due("count(7), the mark text stays", x.count(7), 6);
        Checks.due("two marks behind one", Checks.write(x, 0, "cap 1;cap 2;"), 2);
        Checks.due("sheet(0, 2)", x.sheet(0, 2), 3);
        x.send(1);
        Checks.due("the same on another sheet", x.write(1), 2);
        Checks.due("count(10)", x.count(10), 5);
        x.send(2);
        Checks.due("eight marks", Checks.write(x, 2, EIGHT), 8);
        Checks.due("reader(2, 1)", x.reader(2, 1), 8);
    }

    private static void emptyMarkTextWritten() {
        Checks.sentence("25: Writes the marks of the mark text (of an empty one none)");
        ProofSheets x = Checks.withMarkText("0123456789", "");
        Checks.due("on an empty sheet", x.write(0), 0);
        Checks.due("sheet(0, 2)", x.sheet(0, 2), 0);
        Checks.write(x, 0, EIGHT);
        Checks.due("on a full sheet", Checks.write(x, 0, ""), 0);
        Checks.due("sheet(0, 2)", x.sheet(0, 2), 8);
        Checks.due("count(10)", x.count(10), 8);
        x.bring(0);
        Checks.due("on a sheet that is back", x.write(0), NOT_POSSIBLE);
    }

    private static void sheetOfWrite() {
        Checks.sentence("25: INVALID_ARGUMENT");
        ProofSheets x = Checks.withText("abc");
        Checks.due("write(0) in the round 0", x.write(0), INVALID);
        x.begin();
        Checks.due("write(0), no sheet", x.write(0), INVALID);
        x.send(0);
        x.send(1);
        Checks.due("write(1)", x.write(1), 0);
        for (int none : new int[] {-1, 2, 8, 256, Integer.MIN_VALUE, Integer.MAX_VALUE}) {
            Checks.due("write(" + none + ")", x.write(none), INVALID);
        }
    }

    private static void writeThatIsNotPossible() {
        Checks.sentence("25: NOT_POSSIBLE if the sheet is not out, or the mark text has a fault for it");
        ProofSheets x = Checks.withMarkText("0123456789", "cap 0;cap 10;");
        Checks.due("a fault at the end", x.write(0), NOT_POSSIBLE);
        Checks.due("the marks ahead of it are not written", x.sheet(0, 2), 0);
        Checks.due("count(10)", x.count(10), 0);
        Checks.typed(x, "cap 0;");
        x.send(1);
        x.write(0);
        Checks.due("a fault for this sheet", x.write(0), NOT_POSSIBLE);
        Checks.due("none for another one", x.write(1), 1);
        Checks.typed(x, "cap 1;");
        x.bring(0);
        Checks.due("back", x.write(0), NOT_POSSIBLE);
        Checks.due("another one is out", x.write(1), 1);
    }
}
