/** Promises 14 to 20, and what the terms say of likeness, of standing against, and of carrying out. */
public final class ListTest {
    private static final int INVALID = -1;
    private static final int NOT_POSSIBLE = -2;
    private static final int NOT_FOUND = -4;

    public static void main(String[] args) {
        mark();
        answer();
        against();
        againstOfEveryPair();
        next();
        finish();
        finishRefused();
        wouldAndAgain();
        carryingOutOfMany();
        cutting();
        Checks.end("ListTest");
    }

    private static void mark() {
        ProofSheets x = Checks.inRoundOne("abcdef");
        Checks.due("14: empty list", x.mark(0, 0), INVALID);
        Checks.merged(x, 4, "del 1 6;ins 6 x;rep 5 ~;swap 4;cap 0;ask 3;");
        Checks.merged(x, 5, "cap 0;");
        Checks.merged(x, 2, "ask 3;cap 0;");
        int[] firsts = {1, 6, 5, 4, 0, 3};
        int[] characters = {NOT_FOUND, 'x', '~', NOT_FOUND, NOT_FOUND, NOT_FOUND};
        int[] sheets = {1, 1, 1, 1, 3, 2};
        int[] lowest = {4, 4, 4, 4, 2, 2};
        int[] opposed = {2, 0, 2, 2, 0, 0};
        for (int i = 0; i < 6; i++) {
            Checks.due("14: kind", x.mark(i, 0), i);
            Checks.due("14: first position", x.mark(i, 1), firsts[i]);
            Checks.due("14: second position", x.mark(i, 2), i == 0 ? 6 : NOT_FOUND);
            Checks.due("14: character", x.mark(i, 3), characters[i]);
            Checks.due("14: not answered", x.mark(i, 4), 0);
            Checks.due("14: sheets", x.mark(i, 5), sheets[i]);
            Checks.due("14: lowest reader", x.mark(i, 6), lowest[i]);
            Checks.due("14: against it", x.mark(i, 7), opposed[i]);
            Checks.due("14: can be accepted", x.mark(i, 8), 1);
        }
        x.answer(2, 0);
        x.answer(1, 1);
        Checks.due("14: accepted", x.mark(2, 4), 1);
        Checks.due("14: refused", x.mark(1, 4), 2);
        Checks.due("14: an accepted one can not be accepted", x.mark(2, 8), 0);
        Checks.due("14: a refused one can not be accepted", x.mark(1, 8), 0);
        Checks.due("14: one against it can not be accepted", x.mark(0, 8), 0);
        Checks.due("14: one against it can not be accepted", x.mark(3, 8), 0);
        Checks.due("14: another one can be accepted", x.mark(4, 8), 1);
        Checks.due("14: an ask can be accepted", x.mark(5, 8), 1);
        Checks.due("14: answers alter nothing of it", x.mark(2, 7), 2);
        Checks.due("14: mark -1", x.mark(-1, 0), INVALID);
        Checks.due("14: mark 6", x.mark(6, 0), INVALID);
        Checks.due("14: what -1", x.mark(0, -1), INVALID);
        Checks.due("14: what 9", x.mark(0, 9), INVALID);
        Checks.due("14: mark greatest", x.mark(Integer.MAX_VALUE, 2), INVALID);
        twoSheetsOfOneReader();
    }

    private static void twoSheetsOfOneReader() {
        ProofSheets x = Checks.inRoundOne("abc");
        Checks.merged(x, 1, "cap 0;");
        Checks.merged(x, 1, "cap 0;");
        Checks.back(x, 0, "cap 0;");
        Checks.due("14: sheets that are merged had it", x.mark(0, 5), 2);
        Checks.due("14: the lowest reader of merged sheets", x.mark(0, 6), 1);
        x.merge(2);
        Checks.merged(x, 3, "cap 0;");
        Checks.due("14: four sheets had it", x.mark(0, 5), 4);
        Checks.due("14: the lowest reader stays", x.mark(0, 6), 0);
    }

    private static void answer() {
        ProofSheets x = Checks.inRoundOne("abcdef");
        Checks.due("15: empty list", x.answer(0, 0), INVALID);
        Checks.merged(x, 0, "rep 1 x;cap 1;swap 0;ask 1;rep 1 y;");
        Checks.due("15: answer -1", x.answer(0, -1), INVALID);
        Checks.due("15: answer 2", x.answer(0, 2), INVALID);
        Checks.due("15: mark -1", x.answer(-1, 0), INVALID);
        Checks.due("15: mark 5", x.answer(5, 0), INVALID);
        Checks.due("15: refused", x.answer(1, 1), 4);
        Checks.due("15: accepted, against a refused one", x.answer(0, 0), 3);
        Checks.due("15: answered", x.answer(0, 0), NOT_POSSIBLE);
        Checks.due("15: answered", x.answer(0, 1), NOT_POSSIBLE);
        Checks.due("15: answered, refused", x.answer(1, 0), NOT_POSSIBLE);
        Checks.due("15: answered, wrong answer", x.answer(1, 2), INVALID);
        Checks.due("15: against an accepted one", x.answer(2, 0), NOT_POSSIBLE);
        Checks.due("15: nothing changed", x.count(5), 3);
        Checks.due("15: an ask", x.answer(3, 0), 2);
        Checks.due("15: refused, against an accepted one", x.answer(2, 1), 1);
        Checks.due("15: the last one", x.answer(4, 1), 0);
        Checks.due("15: accepted, since the beginning", x.count(12), 2);
        Checks.due("15: refused, since the beginning", x.count(13), 3);
        Checks.due("15: a later mark against an accepted one", Checks.merged(x, 1, "del 0 2;"), 0);
        Checks.due("15: is not answered", x.mark(5, 4), 0);
        Checks.due("15: can not be accepted", x.answer(5, 0), NOT_POSSIBLE);
    }

    private static void against() {
        ProofSheets x = Checks.inRoundOne("abcdefgh");
        Checks.due("16: empty list", x.against(0, 0), INVALID);
        Checks.merged(x, 0, "del 2 4;ins 3 x;ins 2 x;ins 4 x;rep 3 y;ask 3;");
        Checks.merged(x, 1, "swap 3;swap 4;ins 4 z;cap 2;cap 4;rep 3 z;");
        // the marks:  0 del 2 4, 1 ins 3, 2 ins 2, 3 ins 4, 4 rep 3 y, 5 ask 3,
        //             6 swap 3, 7 swap 4, 8 ins 4 z, 9 cap 2, 10 cap 4, 11 rep 3 z
        int[][] pairs = {
            {0, 1}, {0, 4}, {0, 6}, {0, 9}, {0, 11}, {3, 6}, {3, 8}, {4, 6}, {4, 11}, {6, 7}, {6, 8},
            {6, 10}, {6, 11}, {7, 10}};
        boolean[][] due = new boolean[12][12];
        for (int[] pair : pairs) {
            due[pair[0]][pair[1]] = true;
            due[pair[1]][pair[0]] = true;
        }
        for (int one = 0; one < 12; one++) {
            int many = 0;
            for (int other = 0; other < 12; other++) {
                Checks.due("16: against(" + one + ", " + other + ")", x.against(one, other), due[one][other] ? 1 : 0);
                many += due[one][other] ? 1 : 0;
            }
            Checks.due("16: mark(" + one + ", 7)", x.mark(one, 7), many);
        }
        Checks.due("16: pairs", x.count(8), pairs.length);
        Checks.due("16: against(-1, 0)", x.against(-1, 0), INVALID);
        Checks.due("16: against(0, -1)", x.against(0, -1), INVALID);
        Checks.due("16: against(12, 0)", x.against(12, 0), INVALID);
        Checks.due("16: against(0, 12)", x.against(0, 12), INVALID);
    }

    /** Every two marks of a text of five characters, by the words of the document. */
    private static void againstOfEveryPair() {
        String[] marks = everyMark(5);
        for (int i = 0; i < marks.length; i++) {
            for (int j = i + 1; j < marks.length; j++) {
                ProofSheets x = new ProofSheets();
                for (int k = 0; k < 5; k++) {
                    x.put('a');
                }
                x.begin();
                x.send(0);
                Checks.due("write", Checks.write(x, 0, marks[i] + marks[j]), 2);
                x.bring(0);
                x.merge(0);
                int due = standAgainst(marks[i], marks[j]) ? 1 : 0;
                Checks.due("16: " + marks[i] + " against " + marks[j], x.against(0, 1), due);
                Checks.due("16: " + marks[j] + " against " + marks[i], x.against(1, 0), due);
            }
        }
    }

    private static String[] everyMark(int length) {
        java.util.List<String> marks = new java.util.ArrayList<>();
        for (int a = 0; a <= length; a++) {
            for (int b = a + 1; b <= length; b++) {
                marks.add("del " + a + " " + b + ";");
            }
            marks.add("ins " + a + " x;");
            marks.add("ins " + a + " y;");
            if (a + 1 < length) {
                marks.add("swap " + a + ";");
            }
            if (a < length) {
                marks.add("rep " + a + " x;");
                marks.add("rep " + a + " y;");
                marks.add("cap " + a + ";");
                marks.add("ask " + a + ";");
            }
        }
        return marks.toArray(new String[0]);
    }

    private static boolean covers(String mark, int position) {
        String[] words = mark.replace(";", "").split(" ");
        int a = Integer.parseInt(words[1]);
        if (words[0].equals("ins")) {
            return false;
        }
        if (words[0].equals("del")) {
            return position >= a && position < Integer.parseInt(words[2]);
        }
        return position == a || words[0].equals("swap") && position == a + 1;
    }

    private static boolean standAgainst(String one, String other) {
        if (one.startsWith("ask") || other.startsWith("ask")) {
            return false;
        }
        for (int p = 0; p < 6; p++) {
            if (covers(one, p) && covers(other, p)) {
                return true;
            }
            boolean oneIns = one.startsWith("ins " + p + " ");
            boolean otherIns = other.startsWith("ins " + p + " ");
            if (oneIns && otherIns || oneIns && covers(other, p - 1) && covers(other, p)
                    || otherIns && covers(one, p - 1) && covers(one, p)) {
                return true;
            }
        }
        return false;
    }

    private static void next() {
        ProofSheets x = Checks.inRoundOne("abcdef");
        Checks.due("17: empty list", x.next(), NOT_FOUND);
        Checks.merged(x, 0, "cap 3;cap 1;rep 1 x;ask 5;");
        Checks.due("17: the least position, then number", x.next(), 1);
        Checks.merged(x, 1, "ask 5;cap 3;");
        Checks.due("17: the most sheets, then position", x.next(), 0);
        Checks.merged(x, 2, "ask 5;");
        Checks.due("17: the most sheets", x.next(), 3);
        x.answer(3, 1);
        Checks.due("17: not an answered one", x.next(), 0);
        x.answer(0, 0);
        Checks.due("17: the least position, then number", x.next(), 1);
        x.answer(1, 0);
        Checks.due("17: also one that can not be accepted", x.next(), 2);
        x.answer(2, 1);
        Checks.due("17: all are answered", x.next(), NOT_FOUND);
    }

    private static void finish() {
        ProofSheets x = Checks.withText("abcdef");
        Checks.due("18: the round 0", x.finish(), NOT_POSSIBLE);
        x.begin();
        Checks.due("18: no sheets", x.finish(), 6);
        Checks.due("18: round", x.count(1), 2);
        Checks.merged(x, 0, "del 1 3;ins 0 X;ins 6 Z;");
        Checks.accept(x, 0, 1);
        x.answer(2, 1);
        x.send(1);
        Checks.write(x, 1, "cap 0;");
        x.lose(1);
        Checks.due("18: finish", x.finish(), 5);
        Checks.text("18", x, "Xadef");
        Checks.due("18: round", x.count(1), 3);
        Checks.due("18: sheets", x.count(2), 0);
        Checks.due("18: sheets out", x.count(3), 0);
        Checks.due("18: list", x.count(4), 0);
        Checks.due("18: lost for good", x.count(14), 1);
        Checks.due("18: not merged", x.count(15), 0);
        Checks.due("18: next", x.next(), NOT_FOUND);
        Checks.due("18: no sheet", x.sheet(0, 1), INVALID);
        Checks.due("18: a new sheet", x.send(1), 0);
        Checks.due("18: it is empty", x.sheet(0, 2), 0);
        x.bring(0);
        x.merge(0);
        emptyText();
    }

    private static void emptyText() {
        ProofSheets x = Checks.inRoundOne("ab");
        Checks.merged(x, 0, "del 0 2;ask 1;");
        Checks.accept(x, 0, 1);
        Checks.due("18: all goes", x.finish(), 0);
        Checks.text("18: empty", x, "");
        Checks.due("18: begin", x.begin(), NOT_POSSIBLE);
        Checks.due("18: put", x.put('a'), NOT_POSSIBLE);
        x.send(0);
        String[] beyond = {"del 0 1;", "ins 1 x;", "rep 0 x;", "swap 0;", "cap 0;", "ask 0;"};
        for (String mark : beyond) {
            Checks.typed(x, mark);
            Checks.due("18: \"" + mark + "\" in an empty text", x.fault(0, 1), 3);
        }
        Checks.due("18: ins in an empty text", Checks.write(x, 0, "ins 0 x;"), 1);
        x.bring(0);
        x.merge(0);
        Checks.accept(x, 0);
        Checks.wouldBe("18: ins in an empty text", x, "x");
        Checks.due("18: finish", x.finish(), 1);
        Checks.text("18", x, "x");
    }

    private static void finishRefused() {
        ProofSheets x = Checks.inRoundOne("abc");
        x.send(0);
        Checks.due("18: a sheet is out", x.finish(), NOT_POSSIBLE);
        Checks.write(x, 0, "ask 0;");
        x.bring(0);
        Checks.due("18: a sheet is back", x.finish(), NOT_POSSIBLE);
        x.merge(0);
        Checks.due("18: a mark is not answered", x.finish(), NOT_POSSIBLE);
        Checks.due("18: round", x.count(1), 1);
        x.answer(0, 0);
        Checks.due("18: finish", x.finish(), 3);
        Checks.text("18: an ask alters nothing", x, "abc");
    }

    private static void wouldAndAgain() {
        ProofSheets x = new ProofSheets();
        Checks.due("19: would(-1)", x.would(-1), INVALID);
        Checks.due("20: again(-1)", x.again(-1), INVALID);
        Checks.due("19: would(least)", x.would(Integer.MIN_VALUE), INVALID);
        Checks.due("20: again(least)", x.again(Integer.MIN_VALUE), INVALID);
        Checks.wouldBe("19: empty", x, "");
        x = Checks.withText("ab");
        Checks.wouldBe("19: in the round 0", x, "ab");
        Checks.due("19: would(greatest)", x.would(Integer.MAX_VALUE), NOT_FOUND);
        Checks.due("20: again(greatest)", x.again(Integer.MAX_VALUE), NOT_FOUND);
        carriedOut("azAZ@[`{1 ", "cap 0;cap 1;cap 2;cap 3;cap 4;cap 5;cap 6;cap 7;", "AZaz@[`{1 ");
        carriedOut("abc", "swap 0;", "bac");
        carriedOut("abc", "swap 1;", "acb");
        carriedOut("abcd", "swap 0;swap 2;ins 2 -;ins 0 <;ins 4 >;", "<ba-dc>");
        carriedOut("abcd", "del 1 3;ins 1 x;ins 3 y;", "axyd");
        carriedOut("abcd", "ins 1 x;rep 1 y;ins 2 z;ask 1;", "axyzcd");
        carriedOut("abcd", "del 0 1;del 1 2;del 3 4;", "c");
        carriedOut("abcd", "del 0 4;ins 0 x;ins 4 y;", "xy");
        carriedOut("abcd", "rep 0  ;cap 3;", " bcD");
        carriedOut("ab", "ask 0;ask 1;", "ab");
    }

    private static void carriedOut(String text, String marks, String want) {
        ProofSheets x = Checks.inRoundOne(text);
        Checks.merged(x, 0, marks);
        Checks.wouldBe("19: before the answers", x, text);
        for (int i = 0; i < x.count(4); i++) {
            Checks.accept(x, i);
        }
        Checks.wouldBe("19: " + marks, x, want);
        Checks.text("19: the text stays", x, text);
        Checks.due("18: finish", x.finish(), want.length());
        Checks.text("18: " + marks, x, want);
    }

    /** Only accepted marks count, and merging in any order gives the same text. */
    private static void carryingOutOfMany() {
        String text = "the quick brown fox";
        String[] sheets = {"swap 0;ins 0 *;del 4 6;", "ins 6 +;rep 6 I;cap 8;", "ins 19 !;ins 10 -;del 10 15;"};
        for (int shift = 0; shift < 3; shift++) {
            ProofSheets x = Checks.inRoundOne(text);
            for (int i = 0; i < 3; i++) {
                Checks.merged(x, i, sheets[(i + shift) % 3]);
            }
            Checks.merged(x, 4, "del 2 3;");
            x.answer(9, 1);
            for (int i = 0; i < 9; i++) {
                Checks.accept(x, i);
            }
            Checks.wouldBe("20: many", x, "*hte +IcK - fox!");
        }
    }

    private static void cutting() {
        ProofSheets x = Checks.inRoundOne(Checks.repeated('x', 100));
        Checks.merged(x, 0, "ins 0 a;ins 100 b;ins 50 c;");
        Checks.merged(x, 1, "del 98 100;");
        Checks.accept(x, 0, 1, 2);
        Checks.due("19: would(99)", x.would(99), 'x');
        Checks.due("19: would(100)", x.would(100), NOT_FOUND);
        Checks.due("20: again(99)", x.again(99), 'x');
        Checks.due("20: again(100)", x.again(100), NOT_FOUND);
        Checks.accept(x, 3);
        // what an ins pushes beyond the end comes back when a del makes room: the cut is made at the end alone
        String want = "a" + Checks.repeated('x', 50) + "c" + Checks.repeated('x', 48);
        Checks.wouldBe("19: cut, with the ins at the end", x, want);
        ProofSheets y = Checks.inRoundOne(Checks.repeated('x', 99) + "y");
        Checks.merged(y, 0, "del 0 2;ins 50 a;ins 60 b;ins 100 c;");
        Checks.accept(y, 0, 1, 2, 3);
        String all = Checks.repeated('x', 48) + "a" + Checks.repeated('x', 10) + "b" + Checks.repeated('x', 39) + "y";
        Checks.wouldBe("20: cut at the end alone", y, all);
        Checks.due("18: finish", y.finish(), 100);
        Checks.text("18: cut", y, all);
        manyInserted();
    }

    private static void manyInserted() {
        ProofSheets x = Checks.inRoundOne(Checks.repeated('x', 100));
        StringBuilder want = new StringBuilder();
        for (int sheet = 0; sheet < 3; sheet++) {
            StringBuilder marks = new StringBuilder();
            for (int i = 0; i < 8; i++) {
                marks.append("ins ").append(sheet * 8 + i).append(" y;");
                want.append("yx");
            }
            Checks.merged(x, 0, marks.toString());
        }
        Checks.merged(x, 0, "del 90 99;");
        for (int i = 0; i < 25; i++) {
            Checks.accept(x, i);
        }
        want.append(Checks.repeated('x', 52));
        for (int i = 0; i < 100; i++) {
            if (i % 2 == 0 || i > 90) {
                Checks.due("19: many ins", x.would(i), want.charAt(i));
            }
            if (i % 4 == 0 || i > 90) {
                Checks.due("20: many ins", x.again(i), want.charAt(i));
            }
        }
        Checks.due("19: many ins", x.would(100), NOT_FOUND);
        Checks.due("20: many ins", x.again(100), NOT_FOUND);
    }
}
