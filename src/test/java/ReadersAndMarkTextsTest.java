/** Promises 21 to 25. */
public final class ReadersAndMarkTextsTest {
    private static final int INVALID = -1;
    private static final int NOT_POSSIBLE = -2;
    private static final int LIMIT = -3;
    private static final int NOT_FOUND = -4;

    public static void main(String[] args) {
        reader();
        type();
        clearText();
        faultOfOneMark();
        faultOfSeveral();
        faultOfSheets();
        write();
        writeErrors();
        Checks.end("ReadersAndMarkTextsTest");
    }

    private static void reader() {
        ProofSheets x = Checks.inRoundOne("abcdef");
        Checks.merged(x, 5, "cap 0;cap 1;");
        Checks.merged(x, 5, "cap 1;");
        x.send(5);
        Checks.write(x, 2, "ask 0;ask 1;ask 2;");
        Checks.due("21: sheets", x.reader(5, 0), 3);
        Checks.due("21: marks made", x.reader(5, 1), 6);
        Checks.due("21: marks of merged sheets", x.reader(5, 2), 3);
        Checks.due("21: a sheet is out", x.reader(5, 3), 1);
        x.lose(2);
        Checks.due("21: none is out", x.reader(5, 3), 0);
        x.answer(0, 0);
        x.answer(1, 0);
        x.finish();
        x.send(5);
        x.send(0);
        Checks.due("21: since the beginning", x.reader(5, 0), 4);
        Checks.due("21: since the beginning", x.reader(5, 1), 6);
        Checks.due("21: since the beginning", x.reader(5, 2), 3);
        Checks.due("21: another reader", x.reader(0, 0), 1);
        Checks.due("21: another reader", x.reader(0, 1), 0);
        Checks.due("21: another reader", x.reader(0, 3), 1);
        Checks.due("21: another reader", x.reader(1, 3), 0);
        int[][] wrong = {{-1, 0}, {6, 0}, {0, -1}, {0, 4}, {Integer.MIN_VALUE, 0}, {0, Integer.MAX_VALUE}};
        for (int[] pair : wrong) {
            Checks.due("21: reader(" + pair[0] + ", " + pair[1] + ")", x.reader(pair[0], pair[1]), INVALID);
        }
    }

    private static void type() {
        ProofSheets x = new ProofSheets();
        Checks.due("22: type(31)", x.type(31), INVALID);
        Checks.due("22: type(127)", x.type(127), INVALID);
        for (int i = 0; i < 80; i++) {
            Checks.due("22: type", x.type(i % 2 == 0 ? 32 : 126), i + 1);
        }
        Checks.due("22: type, full", x.type(32), LIMIT);
        Checks.due("22: type(31), full", x.type(31), INVALID);
        Checks.due("22: length", x.count(7), 80);
        Checks.due("22: no change", x.count(6), 0);
        x.put('a');
        x.clearText();
        Checks.typed(x, "abc");
        x.undo();
        Checks.due("22: undo leaves the mark text", x.count(7), 3);
    }

    private static void clearText() {
        ProofSheets x = new ProofSheets();
        Checks.due("23: clearText, empty", x.clearText(), 0);
        x.type('a');
        x.type('b');
        Checks.due("23: clearText", x.clearText(), 2);
        Checks.due("23: length", x.count(7), 0);
        Checks.due("23: clearText again", x.clearText(), 0);
        Checks.due("23: type", x.type('c'), 1);
        Checks.due("23: no change", x.count(6), 0);
    }

    /** A text of ten characters and an empty sheet: the reason of each one mark, 0 for none. */
    private static void faultOfOneMark() {
        String[][] reasons = {
            {"del 0 10;", "del 9 10;", "del 000 001;", "ins 0 x;", "ins 10 x;", "rep 9 ~;", "swap 8;", "swap 0;",
                "cap 9;", "ask 009;", "ins 1  ;", "rep 1 ;;", "ins 1 1;"},
            {";", " ", "x", "dele 0 1;", "de 0 1;", "Del 0 1;", " del 0 1;", "1", "swapp 1;", "capask 1;",
                    "delx;", "xel 0 1;", "dxl 0 1;",
                "capz 1;", "swax 1;", "d", "insx", "ABC", "-;"},
            {"del", "del{ 0 1;", "cap` 1;", "del ", "del 1", "del 1;", "del 1 ", "del 1 2", "del 1 2x",
                    "del 1  2;", "del  1 2;", "del 1 2 ;",
                "del 1,2;", "del 0001 2;", "del 1 0002;", "del -1 2;", "del +1 2;", "ins 1;", "ins 1 ;", "ins 1x;",
                "ins 1 x", "ins 1 xx;", "ins 1 ", "ins x 1;", "rep 1", "rep 1  x;", "swap 1 2;", "swap;", "swap ;",
                "swap 1", "cap1;", "cap 1 ;", "cap A;", "ask 1111;", "ask 1,", "cap1 1;", "del1 1 2;", "ask\";",
                "del 9 8", "cap 99", "cap 1\"", "ask 1.;"},
            {"del 0 0;", "del 1 1;", "del 2 1;", "del 0 11;", "del 10 10;", "del 10 11;", "del 999 999;", "ins 11 x;",
                "rep 10 x;", "swap 9;", "swap 10;", "cap 10;", "ask 10;", "ask 999;", "cap 256;", "ins 266 x;",
                "del 0 266;", "del 256 257;"}};
        for (int reason = 0; reason < reasons.length; reason++) {
            for (String mark : reasons[reason]) {
                ProofSheets x = Checks.inRoundOne("0123456789");
                x.send(0);
                Checks.typed(x, mark);
                Checks.due("24: reason of \"" + mark + "\"", x.fault(0, 1), reason == 0 ? NOT_FOUND : reason);
                Checks.due("24: position of \"" + mark + "\"", x.fault(0, 0), reason == 0 ? NOT_FOUND : 0);
                Checks.due("25: write \"" + mark + "\"", x.write(0), reason == 0 ? 1 : NOT_POSSIBLE);
            }
        }
    }

    private static void faultOfSeveral() {
        ProofSheets x = withEmptySheet();
        faultIs(x, "", NOT_FOUND, NOT_FOUND);
        faultIs(x, "cap 1;cap 2;", NOT_FOUND, NOT_FOUND);
        faultIs(x, "cap 1;cap 2", 6, 2);
        faultIs(x, "cap 1;cap 1;", 6, 4);
        faultIs(x, "cap 1;cap 001;", 6, 4);
        faultIs(x, "cap 1; cap 2;", 6, 1);
        faultIs(x, "rep 1 ;;;", 8, 1);
        faultIs(x, "rep 1 ;;rep 1 ;;", 8, 4);
        faultIs(x, "rep 1 x;rep 1 y;ins 1 x;cap 1;ask 1;", NOT_FOUND, NOT_FOUND);
        faultIs(x, "del 1 2;del 1 3;del 0 2;", NOT_FOUND, NOT_FOUND);
        faultIs(x, "cap 1;cap 10;cap 1;", 6, 3);
        faultIs(x, "cap 1;cap 1", 6, 2);
        x = withEmptySheet();
        faultIs(x, "cap 0;cap 1;cap 2;cap 3;cap 4;cap 5;cap 6;cap 7;", NOT_FOUND, NOT_FOUND);
        faultIs(x, "cap 0;cap 1;cap 2;cap 3;cap 4;cap 5;cap 6;cap 7;cap 8;", 48, 5);
        faultIs(x, "cap 0;cap 1;cap 2;cap 3;cap 4;cap 5;cap 6;cap 7;cap 7;", 48, 4);
        faultIs(x, "cap 0;cap 1;cap 2;cap 3;cap 4;cap 5;cap 6;cap 7;cap 10;", 48, 3);
        faultIs(x, "cap 0;cap 1;cap 2;cap 3;cap 4;cap 5;cap 6;cap 7;cap 8", 48, 2);
        faultIs(x, "cap 0;cap 1;cap 2;cap 3;cap 4;cap 5;cap 6;cap 7;cup 8;", 48, 1);
        x = withEmptySheet();
        String longest = "rep 001 x;rep 002 x;rep 003 x;rep 004 x;rep 005 x;rep 006 x;rep 007 x;rep 008 x;";
        faultIs(x, longest, NOT_FOUND, NOT_FOUND);
        faultIs(x, longest.substring(0, 79) + "y", 70, 2);
    }

    private static ProofSheets withEmptySheet() {
        ProofSheets x = Checks.inRoundOne("0123456789");
        x.send(0);
        return x;
    }

    private static void faultIs(ProofSheets x, String marks, int position, int reason) {
        Checks.typed(x, marks);
        Checks.due("24: position in \"" + marks + "\"", x.fault(0, 0), position);
        Checks.due("24: reason in \"" + marks + "\"", x.fault(0, 1), reason);
    }

    private static void faultOfSheets() {
        ProofSheets x = Checks.withText("abcdefghijkl");
        Checks.due("24: no sheet", x.fault(0, 0), INVALID);
        x.begin();
        x.send(0);
        x.send(1);
        Checks.write(x, 0, "cap 0;cap 1;cap 2;cap 3;cap 4;cap 5;cap 6;");
        Checks.typed(x, "cap 7;cap 8;");
        Checks.due("24: no room", x.fault(0, 0), 6);
        Checks.due("24: no room", x.fault(0, 1), 5);
        Checks.due("24: another sheet", x.fault(1, 1), NOT_FOUND);
        Checks.typed(x, "cap 0;");
        Checks.due("24: like the first one", x.fault(0, 1), 4);
        Checks.typed(x, "cap 6;");
        Checks.due("24: like the last one", x.fault(0, 1), 4);
        x.lose(0);
        Checks.due("24: like, lost", x.fault(0, 1), 4);
        x.find(0);
        Checks.due("24: like, back", x.fault(0, 1), 4);
        x.merge(0);
        Checks.due("24: like, merged", x.fault(0, 1), 4);
        Checks.due("24: the list does not count", x.fault(1, 1), NOT_FOUND);
        Checks.due("24: what -1", x.fault(0, -1), INVALID);
        Checks.due("24: what 2", x.fault(0, 2), INVALID);
        Checks.due("24: sheet 2", x.fault(2, 0), INVALID);
        Checks.due("24: sheet -1", x.fault(-1, 0), INVALID);
        x.clearText();
        Checks.due("24: empty", x.fault(0, 0), NOT_FOUND);
        Checks.due("24: empty, what 2", x.fault(0, 2), INVALID);
    }

    private static void write() {
        ProofSheets x = Checks.inRoundOne("0123456789");
        x.send(3);
        Checks.due("25: write", Checks.write(x, 0, "del 0 9;ins 1 a;"), 2);
        Checks.due("25: the mark text stays", x.count(7), 16);
        Checks.due("25: write, like", x.write(0), NOT_POSSIBLE);
        Checks.due("25: write more", Checks.write(x, 0, "cap 3;"), 1);
        Checks.due("25: marks", x.sheet(0, 2), 3);
        Checks.due("25: behind the others", x.written(0, 2, 0), 4);
        Checks.due("25: made", x.count(10), 3);
        Checks.due("25: of the reader", x.reader(3, 1), 3);
        int states = x.count(6);
        Checks.due("25: an empty mark text", Checks.write(x, 0, ""), 0);
        Checks.due("25: it is a change", x.undo(), Math.min(states, 3));
        Checks.due("25: the others stay", x.sheet(0, 2), 3);
        Checks.due("25: write up to 8", Checks.write(x, 0, "ask 0;ask 1;ask 2;ask 3;ask 4;"), 5);
        Checks.due("25: a ninth", Checks.write(x, 0, "ask 5;"), NOT_POSSIBLE);
        Checks.due("25: none of one with a fault", x.sheet(0, 2), 8);
        Checks.due("25: an empty one on a full sheet", Checks.write(x, 0, ""), 0);
        x.send(4);
        Checks.due("25: a fault at the end", Checks.write(x, 1, "cap 1;cap 1;"), NOT_POSSIBLE);
        Checks.due("25: nothing is written", x.sheet(1, 2), 0);
        Checks.due("25: made", x.count(10), 8);
    }

    private static void writeErrors() {
        ProofSheets x = Checks.withText("abc");
        Checks.due("25: no sheet", x.write(0), INVALID);
        x.begin();
        x.send(0);
        Checks.typed(x, "cap 0;");
        Checks.due("25: sheet -1", x.write(-1), INVALID);
        Checks.due("25: sheet 1", x.write(1), INVALID);
        x.bring(0);
        Checks.due("25: back", x.write(0), NOT_POSSIBLE);
        x.lose(0);
        Checks.due("25: lost", x.write(0), NOT_POSSIBLE);
        x.find(0);
        x.merge(0);
        Checks.due("25: merged", x.write(0), NOT_POSSIBLE);
        x.clearText();
        Checks.due("25: merged, empty", x.write(0), NOT_POSSIBLE);
        Checks.due("25: errors record nothing", x.count(6), 4);
        x.undo();
        Checks.due("25: only the merging is undone", x.sheet(0, 1), 1);
    }
}
