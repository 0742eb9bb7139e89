/** Promises 1 to 13. */
public final class TextAndSheetsTest {
    private static final int INVALID = -1;
    private static final int NOT_POSSIBLE = -2;
    private static final int LIMIT = -3;
    private static final int NOT_FOUND = -4;

    public static void main(String[] args) {
        newObject();
        put();
        begin();
        send();
        bring();
        lose();
        find();
        merge();
        sheet();
        written();
        undo();
        undoRestoresAll();
        undoAcrossRounds();
        count();
        at();
        accounts();
        Checks.end("TextAndSheetsTest");
    }

    private static void newObject() {
        ProofSheets x = new ProofSheets();
        for (int what = 0; what <= 16; what++) {
            Checks.due("1: count(" + what + ")", x.count(what), what == 9 ? INVALID : 0);
        }
        for (int reader = 0; reader < 6; reader++) {
            for (int what = 0; what < 4; what++) {
                Checks.due("1: reader", x.reader(reader, what), 0);
            }
        }
        Checks.due("1: at(0)", x.at(0), NOT_FOUND);
        Checks.due("1: sheet(0, 0)", x.sheet(0, 0), INVALID);
        Checks.due("1: mark(0, 0)", x.mark(0, 0), INVALID);
        Checks.due("1: constants", ProofSheets.INVALID_ARGUMENT, INVALID);
        Checks.due("1: constants", ProofSheets.NOT_POSSIBLE, NOT_POSSIBLE);
        Checks.due("1: constants", ProofSheets.LIMIT_REACHED, LIMIT);
        Checks.due("1: constants", ProofSheets.NOT_FOUND, NOT_FOUND);
        ProofSheets other = new ProofSheets();
        x.put('a');
        Checks.due("1: objects share nothing", other.count(0), 0);
    }

    private static void put() {
        ProofSheets x = new ProofSheets();
        Checks.due("2: put(31)", x.put(31), INVALID);
        Checks.due("2: put(127)", x.put(127), INVALID);
        Checks.due("2: put(least)", x.put(Integer.MIN_VALUE), INVALID);
        Checks.due("2: put(greatest)", x.put(Integer.MAX_VALUE), INVALID);
        Checks.due("2: put(32)", x.put(32), 1);
        Checks.due("2: put(126)", x.put(126), 2);
        Checks.text("2", x, " ~");
        for (int i = 2; i < 100; i++) {
            Checks.due("2: put", x.put('x'), i + 1);
        }
        Checks.due("2: put, full", x.put('x'), LIMIT);
        Checks.due("2: put(31), full", x.put(31), INVALID);
        Checks.due("2: length", x.count(0), 100);
        x.begin();
        Checks.due("2: put in the round 1, full", x.put('x'), NOT_POSSIBLE);
        Checks.due("2: put(31) in the round 1", x.put(31), INVALID);
        ProofSheets y = Checks.inRoundOne("a");
        Checks.due("2: put in the round 1", y.put('x'), NOT_POSSIBLE);
    }

    private static void begin() {
        ProofSheets x = new ProofSheets();
        Checks.due("3: begin, empty", x.begin(), NOT_POSSIBLE);
        Checks.due("3: round", x.count(1), 0);
        x.put('a');
        x.put('b');
        Checks.due("3: begin", x.begin(), 2);
        Checks.due("3: round", x.count(1), 1);
        Checks.due("3: begin again", x.begin(), NOT_POSSIBLE);
        Checks.due("3: finish", x.finish(), 2);
        Checks.due("3: begin in the round 2", x.begin(), NOT_POSSIBLE);
    }

    private static void send() {
        ProofSheets x = Checks.withText("abc");
        Checks.due("4: send in the round 0", x.send(0), NOT_POSSIBLE);
        Checks.due("4: send(-1) in the round 0", x.send(-1), INVALID);
        x.begin();
        Checks.due("4: send(-1)", x.send(-1), INVALID);
        Checks.due("4: send(6)", x.send(6), INVALID);
        Checks.due("4: send(5)", x.send(5), 0);
        Checks.due("4: send(5) again", x.send(5), NOT_POSSIBLE);
        x.bring(0);
        Checks.due("4: send(5), the first one is back", x.send(5), 1);
        x.lose(1);
        Checks.due("4: send(5), the second one is lost", x.send(5), 2);
        for (int reader = 0; reader < 5; reader++) {
            Checks.due("4: send", x.send(reader), 3 + reader);
        }
        Checks.due("4: send(0), out and full", x.send(0), NOT_POSSIBLE);
        x.bring(3);
        Checks.due("4: send(0), full", x.send(0), LIMIT);
        Checks.due("4: send(6), full", x.send(6), INVALID);
        Checks.due("4: sheets", x.count(2), 8);
        Checks.due("4: reader of the sheet 0", x.sheet(0, 0), 5);
        Checks.due("4: it is back", x.sheet(0, 1), 1);
        Checks.due("4: a new sheet is out", x.sheet(7, 1), 0);
    }

    private static void bring() {
        ProofSheets x = Checks.inRoundOne("abc");
        Checks.due("5: bring, no sheet", x.bring(0), INVALID);
        x.send(2);
        Checks.write(x, 0, "cap 0;cap 1;");
        Checks.due("5: bring(-1)", x.bring(-1), INVALID);
        Checks.due("5: bring(1)", x.bring(1), INVALID);
        Checks.due("5: bring(0)", x.bring(0), 2);
        Checks.due("5: it is back", x.sheet(0, 1), 1);
        Checks.due("5: bring, back", x.bring(0), NOT_POSSIBLE);
        x.lose(0);
        Checks.due("5: bring, lost", x.bring(0), NOT_POSSIBLE);
        x.find(0);
        x.merge(0);
        Checks.due("5: bring, merged", x.bring(0), NOT_POSSIBLE);
    }

    private static void lose() {
        ProofSheets x = Checks.inRoundOne("abc");
        Checks.due("6: lose, no sheet", x.lose(0), INVALID);
        x.send(2);
        Checks.write(x, 0, "cap 0;ask 1;");
        Checks.due("6: lose(-1)", x.lose(-1), INVALID);
        Checks.due("6: lose, out", x.lose(0), 2);
        Checks.due("6: it is lost", x.sheet(0, 1), 2);
        Checks.due("6: lose, lost", x.lose(0), NOT_POSSIBLE);
        x.find(0);
        Checks.due("6: lose, back", x.lose(0), 2);
        x.find(0);
        x.merge(0);
        Checks.due("6: lose, merged", x.lose(0), NOT_POSSIBLE);
    }

    private static void find() {
        ProofSheets x = Checks.inRoundOne("abc");
        Checks.due("7: find, no sheet", x.find(0), INVALID);
        x.send(4);
        Checks.write(x, 0, "cap 0;");
        Checks.due("7: find, out", x.find(0), NOT_POSSIBLE);
        Checks.due("7: find(-1)", x.find(-1), INVALID);
        x.lose(0);
        Checks.due("7: find", x.find(0), 1);
        Checks.due("7: it is back", x.sheet(0, 1), 1);
        Checks.due("7: find, back", x.find(0), NOT_POSSIBLE);
        x.merge(0);
        Checks.due("7: find, merged", x.find(0), NOT_POSSIBLE);
        ProofSheets y = Checks.inRoundOne("abc");
        y.send(0);
        y.lose(0);
        y.finish();
        Checks.due("7: find, the round is over", y.find(0), INVALID);
    }

    private static void merge() {
        ProofSheets x = Checks.inRoundOne("abcdef");
        Checks.due("8: merge, no sheet", x.merge(0), INVALID);
        x.send(4);
        Checks.write(x, 0, "rep 2 x;del 0 1;");
        Checks.due("8: merge, out", x.merge(0), NOT_POSSIBLE);
        x.bring(0);
        Checks.due("8: merge(-1)", x.merge(-1), INVALID);
        Checks.due("8: merge", x.merge(0), 0);
        Checks.due("8: it is merged", x.sheet(0, 1), 3);
        Checks.due("8: merge, merged", x.merge(0), NOT_POSSIBLE);
        Checks.due("8: order of the list", x.mark(0, 0), 2);
        Checks.due("8: order of the list", x.mark(1, 0), 0);
        x.answer(0, 0);
        Checks.due("8: merge, one united", Checks.merged(x, 1, "rep 2 y;rep 2 x;del 0 2;"), 1);
        Checks.due("8: length of the list", x.count(4), 4);
        Checks.due("8: the answer stays", x.mark(0, 4), 1);
        Checks.due("8: two sheets had it", x.mark(0, 5), 2);
        Checks.due("8: the lowest reader", x.mark(0, 6), 1);
        Checks.due("8: a new mark is not answered", x.mark(2, 4), 0);
        Checks.due("8: new marks behind the others", x.mark(2, 3), 'y');
        Checks.due("8: new marks behind the others", x.mark(3, 2), 2);
        int lost = Checks.back(x, 3, "cap 5;");
        x.lose(lost);
        Checks.due("8: merge, lost", x.merge(lost), NOT_POSSIBLE);
        Checks.due("8: an empty sheet", Checks.merged(x, 5, ""), 0);
    }

    private static void sheet() {
        ProofSheets x = Checks.inRoundOne("abcdef");
        Checks.due("9: no sheet", x.sheet(0, 0), INVALID);
        Checks.merged(x, 3, "del 1 3;cap 5;ask 2;ins 0 x;");
        x.send(1);
        Checks.write(x, 1, "del 1 3;rep 1 x;cap 2;ask 1;ins 2 y;cap 5;ins 1 z;");
        Checks.due("9: reader", x.sheet(0, 0), 3);
        Checks.due("9: reader", x.sheet(1, 0), 1);
        Checks.due("9: merged", x.sheet(0, 1), 3);
        Checks.due("9: out", x.sheet(1, 1), 0);
        Checks.due("9: marks", x.sheet(1, 2), 7);
        Checks.due("9: like ones", x.sheet(0, 3), 4);
        Checks.due("9: like ones", x.sheet(1, 3), 2);
        Checks.due("9: against an accepted one, none is", x.sheet(1, 4), 0);
        Checks.accept(x, 0, 2);
        Checks.due("9: against an accepted one", x.sheet(1, 4), 3);
        Checks.due("9: the own sheet", x.sheet(0, 4), 0);
        x.answer(1, 1);
        Checks.due("9: a refused one is none", x.sheet(1, 4), 3);
        for (int what : new int[] {-1, 5, Integer.MIN_VALUE, Integer.MAX_VALUE}) {
            Checks.due("9: what " + what, x.sheet(0, what), INVALID);
        }
        Checks.due("9: sheet(-1, 0)", x.sheet(-1, 0), INVALID);
        Checks.due("9: sheet(2, 0)", x.sheet(2, 0), INVALID);
        x.lose(1);
        Checks.due("9: lost", x.sheet(1, 1), 2);
        Checks.due("9: lost, like ones", x.sheet(1, 3), 2);
        ProofSheets y = Checks.inRoundOne("abc");
        Checks.back(y, 0, "rep 0 A;rep 1 A;");
        y.merge(0);
        Checks.accept(y, 0, 1);
        Checks.back(y, 1, "del 0 2;");
        Checks.due("9: a mark against two counts once", y.sheet(1, 4), 1);
    }

    private static void written() {
        ProofSheets x = Checks.inRoundOne("abcdef");
        Checks.due("10: no sheet", x.written(0, 0, 0), INVALID);
        x.send(0);
        Checks.due("10: no marks", x.written(0, 0, 0), NOT_FOUND);
        Checks.write(x, 0, "del 1 6;ins 6 ;;rep 5  ;swap 4;cap 0;ask 3;");
        int[] firsts = {1, 6, 5, 4, 0, 3};
        int[] characters = {NOT_FOUND, ';', ' ', NOT_FOUND, NOT_FOUND, NOT_FOUND};
        for (int i = 0; i < 6; i++) {
            Checks.due("10: kind", x.written(0, i, 0), i);
            Checks.due("10: first position", x.written(0, i, 1), firsts[i]);
            Checks.due("10: second position", x.written(0, i, 2), i == 0 ? 6 : NOT_FOUND);
            Checks.due("10: character", x.written(0, i, 3), characters[i]);
            Checks.due("10: like mark", x.written(0, i, 4), NOT_FOUND);
        }
        Checks.due("10: mark 6", x.written(0, 6, 0), NOT_FOUND);
        Checks.due("10: mark greatest", x.written(0, Integer.MAX_VALUE, 4), NOT_FOUND);
        Checks.due("10: mark 6, what 5", x.written(0, 6, 5), INVALID);
        Checks.due("10: mark -1", x.written(0, -1, 0), INVALID);
        Checks.due("10: what -1", x.written(0, 0, -1), INVALID);
        Checks.due("10: what 5", x.written(0, 0, 5), INVALID);
        Checks.due("10: sheet 1", x.written(1, 0, 0), INVALID);
        Checks.due("10: sheet -1", x.written(-1, 0, 0), INVALID);
        Checks.merged(x, 1, "cap 0;rep 5 x;");
        Checks.due("10: like mark", x.written(0, 4, 4), 0);
        Checks.due("10: another character", x.written(0, 2, 4), NOT_FOUND);
        x.bring(0);
        x.merge(0);
        Checks.due("10: like mark, merged", x.written(0, 0, 4), 2);
        Checks.due("10: like mark, merged", x.written(0, 4, 4), 0);
    }

    private static void undo() {
        ProofSheets x = new ProofSheets();
        Checks.due("11: undo, empty", x.undo(), NOT_POSSIBLE);
        for (int i = 0; i < 6; i++) {
            x.put('a' + i);
            Checks.due("11: history", x.count(6), Math.min(i + 1, 4));
        }
        x.put(31);
        x.begin();
        x.begin();
        Checks.due("11: errors record nothing", x.count(6), 4);
        Checks.due("11: undo begin", x.undo(), 3);
        Checks.due("11: round", x.count(1), 0);
        Checks.due("11: undo put", x.undo(), 2);
        Checks.text("11", x, "abcde");
        Checks.due("11: undo put", x.undo(), 1);
        Checks.text("11", x, "abcd");
        Checks.due("11: undo put", x.undo(), 0);
        Checks.text("11", x, "abc");
        Checks.due("11: the rest is dropped", x.undo(), NOT_POSSIBLE);
        Checks.due("11: put after undo", x.put('z'), 4);
        Checks.due("11: history after undo", x.count(6), 1);
        Checks.due("11: undo it", x.undo(), 0);
        Checks.text("11", x, "abc");
    }

    private static void undoRestoresAll() {
        ProofSheets x = Checks.inRoundOne("abcdef");
        Checks.back(x, 2, "cap 0;rep 1 x;");
        Checks.due("11: the mark text is no change", x.count(6), 4);
        x.merge(0);
        Checks.accept(x, 0, 1);
        Checks.due("11: finish", x.finish(), 6);
        Checks.text("11: finished", x, "Axcdef");
        Checks.typed(x, "ask 1;");
        Checks.due("11: undo finish", x.undo(), 3);
        Checks.text("11: finish undone", x, "abcdef");
        Checks.due("11: the mark text stays", x.count(7), 6);
        Checks.due("11: round", x.count(1), 1);
        Checks.due("11: list", x.count(4), 2);
        Checks.due("11: sheet", x.sheet(0, 1), 3);
        Checks.due("11: marks of the sheet", x.written(0, 1, 3), 'x');
        Checks.due("11: undo answer", x.undo(), 2);
        Checks.due("11: answer", x.mark(1, 4), 0);
        Checks.due("11: accepted", x.count(12), 1);
        Checks.due("11: undo answer", x.undo(), 1);
        Checks.due("11: undo merge", x.undo(), 0);
        Checks.due("11: list", x.count(4), 0);
        Checks.due("11: sheet", x.sheet(0, 1), 1);
        Checks.due("11: marks of merged sheets", x.reader(2, 2), 0);
        ProofSheets y = Checks.inRoundOne("abc");
        y.send(0);
        Checks.write(y, 0, "cap 0;");
        y.undo();
        Checks.due("11: write undone", y.sheet(0, 2), 0);
        Checks.due("11: marks made", y.count(10), 0);
        Checks.due("11: marks of the reader", y.reader(0, 1), 0);
        y.write(0);
        y.lose(0);
        y.undo();
        Checks.due("11: lose undone", y.sheet(0, 1), 0);
        y.undo();
        Checks.due("11: send undone", y.undo(), 0 + y.count(6));
        Checks.due("11: sheets", y.count(2), 0);
        Checks.due("11: sheets sent", y.reader(0, 0), 0);
    }

    /** A round that is undone is seen whole, also if the next round has sheets and marks of its own. */
    private static void undoAcrossRounds() {
        ProofSheets x = Checks.inRoundOne("abcdef");
        Checks.merged(x, 4, "cap 0;");
        Checks.merged(x, 3, "cap 0;cap 1;");
        x.answer(0, 0);
        x.answer(1, 1);
        String before = Seen.stateOf(x);
        Checks.due("11: finish", x.finish(), 6);
        x.send(0);
        x.bring(0);
        x.merge(0);
        for (int i = 3; i >= 0; i--) {
            Checks.due("11: undo", x.undo(), i);
        }
        Checks.holds("11: four undone, the round before is back", Seen.stateOf(x).equals(before));
        Checks.due("11: finish", x.finish(), 6);
        Checks.merged(x, 5, "cap 2;");
        Checks.due("14: a mark of the next round is not answered", x.mark(0, 4), 0);
        Checks.due("14: one sheet had it", x.mark(0, 5), 1);
        Checks.due("14: its reader", x.mark(0, 6), 5);
    }

    private static void count() {
        ProofSheets x = Checks.inRoundOne("abcdef");
        Checks.merged(x, 0, "rep 0 x;rep 0 y;ins 1 z;del 0 2;ask 0;");
        x.send(1);
        x.send(2);
        x.lose(2);
        Checks.accept(x, 0);
        x.answer(4, 1);
        Checks.typed(x, "abcdefg");
        int[] due = {6, 1, 3, 1, 5, 3, 4, 7, 4, INVALID, 5, 0, 1, 1, 0, 0, 3, INVALID};
        for (int what = 0; what < due.length; what++) {
            Checks.due("12: count(" + what + ")", x.count(what), due[what]);
        }
        Checks.due("12: count(-1)", x.count(-1), INVALID);
        Checks.due("12: count(least)", x.count(Integer.MIN_VALUE), INVALID);
        Checks.due("12: count(greatest)", x.count(Integer.MAX_VALUE), INVALID);
    }

    private static void at() {
        ProofSheets x = new ProofSheets();
        Checks.due("13: at(0), empty", x.at(0), NOT_FOUND);
        x.put('a');
        x.put('b');
        Checks.due("13: at(0)", x.at(0), 'a');
        Checks.due("13: at(1)", x.at(1), 'b');
        Checks.due("13: at(2)", x.at(2), NOT_FOUND);
        Checks.due("13: at(greatest)", x.at(Integer.MAX_VALUE), NOT_FOUND);
        Checks.due("13: at(-1)", x.at(-1), INVALID);
        Checks.due("13: at(least)", x.at(Integer.MIN_VALUE), INVALID);
        x.undo();
        Checks.due("13: at(1), undone", x.at(1), NOT_FOUND);
    }

    private static void accounts() {
        ProofSheets x = Checks.inRoundOne("abcdef");
        Checks.merged(x, 0, "cap 0;cap 1;cap 2;");
        Checks.merged(x, 1, "cap 1;cap 2;cap 3;");
        int lost = Checks.back(x, 2, "cap 0;cap 4;");
        x.lose(lost);
        x.send(3);
        Checks.write(x, 3, "ask 1;");
        int[] due = {9, 2, 0, 0, 0, 3, 4};
        accountsAre("12: before the answers", x, due);
        x.answer(0, 0);
        x.answer(1, 1);
        x.answer(2, 0);
        x.answer(3, 1);
        x.bring(3);
        accountsAre("12: a sheet is back", x, new int[] {9, 2, 2, 2, 0, 3, 0});
        x.merge(3);
        x.answer(4, 0);
        accountsAre("12: answered", x, new int[] {9, 2, 3, 2, 0, 2, 0});
        Checks.due("12: finish", x.finish(), 6);
        accountsAre("12: lost for good", x, new int[] {9, 2, 3, 2, 2, 0, 0});
        Checks.merged(x, 0, "cap 0;");
        accountsAre("12: the next round", x, new int[] {10, 2, 3, 2, 2, 0, 1});
        x.send(1);
        x.undo();
        accountsAre("12: undone", x, new int[] {10, 2, 3, 2, 2, 0, 1});
        ProofSheets y = Checks.inRoundOne("abc");
        y.send(0);
        Checks.write(y, 0, "cap 0;cap 1;");
        accountsAre("12: the sheet 0 is out", y, new int[] {2, 0, 0, 0, 0, 2, 0});
        y.lose(0);
        accountsAre("12: the sheet 0 is lost", y, new int[] {2, 0, 0, 0, 0, 2, 0});
        y.finish();
        accountsAre("12: the sheet 0 is lost for good", y, new int[] {2, 0, 0, 0, 2, 0, 0});
    }

    private static void accountsAre(String what, ProofSheets x, int[] due) {
        for (int i = 0; i < due.length; i++) {
            Checks.due(what + ": account " + i, x.count(10 + i), due[i]);
        }
        Checks.accountsAddUp(what, x);
    }
}
