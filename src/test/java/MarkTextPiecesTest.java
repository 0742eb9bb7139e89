/**
 * Every mark text of up to four pieces, words, signs and digits, and every row of up to three marks on
 * sheets that have none, six and eight: the fault of each is compared with the model's.
 */
public final class MarkTextPiecesTest {
    private static final int LAST_CALL = 512;
    private static final String TEXT = "0123456789";
    private static final String SIX = "cap 0;del 0 10;ins 10  ;rep 9 x;swap 8;ask 1;";
    private static final String TWO = "cap 4;ask 4;";
    private static final String[] PIECES =
            {"del", "ins", "rep", "swap", "cap", "ask", "x", " ", ";", "0", "1", "9", "10", "00", "-"};
    private static final String[] MARKS = {"cap 0;", "cap 00;", "cap 1;", "del 0 10;", "del 00 010;", "del 1 1;",
        "ins 10  ;", "ins 10 x;", "rep 9 x;", "rep 9 ;;", "swap 8;", "swap 9;", "ask 1;", "ask 10;", "cap 1", "x;",
        " "};

    private ProofSheets x;
    private SheetsModel model;
    private int calls;
    private int texts;
    private final int[] seen = new int[6];

    public static void main(String[] args) {
        MarkTextPiecesTest test = new MarkTextPiecesTest();
        test.begin();
        test.everyRow(PIECES, "", 4);
        test.everyRow(MARKS, "", 3);
        Checks.due("mark texts", test.texts, 15 * 15 * 15 * 15 + 15 * 15 * 15 + 15 * 15 + 15 + 1
                + 17 * 17 * 17 + 17 * 17 + 17 + 1);
        for (int reason = 0; reason <= 5; reason++) {
            Checks.holds("mark texts with the reason " + reason, test.seen[reason] > 100);
        }
        Checks.end("MarkTextPiecesTest");
    }

    /** The sheet 0 has no marks, the sheet 1 has six, the sheet 2 has eight and is not out. */
    private void begin() {
        x = new ProofSheets();
        model = new SheetsModel();
        calls = 0;
        for (int i = 0; i < TEXT.length(); i++) {
            same("put", x.put(TEXT.charAt(i)), model.put(TEXT.charAt(i)));
        }
        same("begin", x.begin(), model.begin());
        for (int reader = 0; reader < 3; reader++) {
            same("send", x.send(reader), model.send(reader));
        }
        typed(SIX);
        same("write", x.write(1), model.write(1));
        same("write", x.write(2), model.write(2));
        typed(TWO);
        same("write", x.write(2), model.write(2));
        same("bring", x.bring(2), model.bring(2));
    }

    private void same(String call, int got, int want) {
        calls++;
        Checks.due(call, got, want);
    }

    private void typed(String marks) {
        same("clearText", x.clearText(), model.clearText());
        for (int i = 0; i < marks.length(); i++) {
            same("type", x.type(marks.charAt(i)), model.type(marks.charAt(i)));
        }
    }

    private void everyRow(String[] pieces, String ahead, int more) {
        compare(ahead);
        if (more > 0) {
            for (String piece : pieces) {
                everyRow(pieces, ahead + piece, more - 1);
            }
        }
    }

    private void compare(String marks) {
        if (calls + marks.length() + 7 > LAST_CALL) {
            begin();
        }
        texts++;
        typed(marks);
        for (int sheet = 0; sheet < 3; sheet++) {
            String told = "fault of \"" + marks + "\" for the sheet " + sheet;
            same(told + ": position", x.fault(sheet, 0), model.fault(sheet, 0));
            same(told + ": reason", x.fault(sheet, 1), model.fault(sheet, 1));
            seen[Math.max(0, model.fault(sheet, 1))]++;
        }
    }
}
