/**
 * Runs drawn by a fixed rule, each answer compared with the model's. A run has 450 calls and 7 times 7 more
 * for the sum of the accounts: no object is used for more than 512, behind which its answers are free.
 */
public final class RandomRunsTest {
    private static final int RUNS = 12000;
    private static final int CALLS = 450;
    private static final int[] ODD = {-1, -2, 9, 64, 100, 1000, Integer.MIN_VALUE, Integer.MAX_VALUE};

    private long seed;
    private int run;
    private int calls;
    private ProofSheets x;
    private SheetsModel model;
    private final int[] callsOf = new int[24];
    private final int[] goodOf = new int[24];
    private int longestList;

    public static void main(String[] args) {
        RandomRunsTest test = new RandomRunsTest();
        for (int run = 1; run <= RUNS; run++) {
            test.oneRun(run);
        }
        test.allWasReached();
        manyCalls();
        Checks.end("RandomRunsTest");
    }

    private int below(int bound) {
        seed = seed * 6364136223846793005L + 1442695040888963407L;
        return (int) ((seed >>> 33) % bound);
    }

    private void oneRun(int number) {
        run = number;
        seed = number;
        calls = 0;
        x = new ProofSheets();
        model = new SheetsModel();
        int length = number % 19 == 0 ? 100 : number % 17 == 0 ? below(101) : 1 + below(12);
        for (int i = 0; i < length; i++) {
            call(0, 32 + below(95), 0, 0);
        }
        call(1, 0, 0, 0);
        while (calls < CALLS) {
            step(length);
        }
    }

    private void step(int length) {
        int drawn = below(100);
        if (drawn < 8) {
            call(2, below(6), 0, 0);
        } else if (drawn < 12) {
            typeMarks(length);
            write();
        } else if (drawn < 15) {
            write();
        } else if (drawn < 37) {
            towardsTheEnd();
        } else if (drawn < 38) {
            call(9, 0, 0, 0);
        } else {
            ask(length);
        }
    }

    /** Writes the mark text on one or two sheets, as a rule on ones that are out. */
    private void write() {
        for (int i = below(2); i < 2; i++) {
            int sheet = aSheet();
            for (int k = 0; k < 4 && model.sheet(sheet, 1) != 0; k++) {
                sheet = aSheet();
            }
            call(23, sheet, 0, 0);
        }
    }

    private int aSheet() {
        return below(10) == 0 ? below(9) : below(Math.max(1, model.count(2)));
    }

    /** Does what brings the round nearer to its end, so that runs see many rounds. */
    private void towardsTheEnd() {
        int sheet = aSheet();
        switch (below(9)) {
            case 0: call(3, sheet, 0, 0); break;
            case 1: call(4, sheet, 0, 0); break;
            case 2: call(5, sheet, 0, 0); break;
            case 3: case 4: call(6, sheet, 0, 0); break;
            case 5: case 6: answerNext(); break;
            case 7: call(13, below(Math.max(1, model.count(4))), below(4) / 3, 0); break;
            default: call(16, 0, 0, 0); break;
        }
        longestList = Math.max(longestList, model.count(4));
    }

    private void answerNext() {
        int mark = Math.max(0, model.next());
        call(13, mark, model.mark(mark, 8) == 1 ? 0 : 1, 0);
    }

    private void typeMarks(int length) {
        call(21, 0, 0, 0);
        int many = below(5);
        for (int i = 0; i < many; i++) {
            String mark = oneMark(length);
            for (int k = 0; k < mark.length(); k++) {
                if (below(150) == 0) {
                    call(20, 32 + below(95), 0, 0);
                }
                call(20, mark.charAt(k), 0, 0);
            }
        }
    }

    private String oneMark(int length) {
        int a = below(Math.max(1, length + (below(6) == 0 ? 3 : -1)));
        int b = a + (below(9) == 0 ? 0 : 1 + below(3));
        String character = "" + (char) (below(4) == 0 ? ';' : below(3) == 0 ? ' ' : 'x' + below(2));
        switch (below(7)) {
            case 0: return "del " + a + " " + b + ";";
            case 1: case 6: return "ins " + a + " " + character + ";";
            case 2: return "rep " + a + " " + character + ";";
            case 3: return "swap " + a + ";";
            case 4: return "cap 0" + a + ";";
            default: return "ask " + a + ";";
        }
    }

    /** A call of any kind, now and then with an odd argument. */
    private void ask(int length) {
        int[] arguments = {aSheet(), below(3), below(5)};
        int kind = below(24);
        if (kind == 10) {
            arguments[0] = below(18);
        } else if (kind == 11 || kind == 17 || kind == 18) {
            arguments[0] = below(length + 3);
        } else if (kind == 2 || kind == 19) {
            arguments[0] = below(6);
        } else if (kind == 0 || kind == 20) {
            arguments[0] = 32 + below(95);
        } else if (kind == 12 || kind == 13 || kind == 14) {
            arguments[0] = below(Math.max(1, model.count(4)));
            arguments[1] = below(kind == 12 ? 9 : kind == 13 ? 2 : Math.max(1, model.count(4)));
        }
        if (kind == 7 || kind == 19) {
            arguments[1] = below(kind == 7 ? 5 : 4);
        }
        if (kind == 21 || kind == 9 || kind == 16) {
            return;
        }
        if (below(12) == 0) {
            arguments[below(3)] = ODD[below(ODD.length)];
        }
        call(kind, arguments[0], arguments[1], arguments[2]);
        if (kind == 17) {
            call(18, arguments[0], 0, 0);
        }
    }

    private void call(int kind, int a, int b, int c) {
        if (calls >= CALLS) {
            return;
        }
        calls++;
        int want = wanted(kind, a, b, c);
        callsOf[kind]++;
        goodOf[kind] += want >= 0 ? 1 : 0;
        Checks.due("run " + run + ", call " + calls + ": kind " + kind + " (" + a + ", " + b + ", " + c + ")",
                got(x, kind, a, b, c), want);
        if (calls % 64 == 0) {
            Checks.accountsAddUp("run " + run + ", call " + calls, x);
        }
    }

    private static int got(ProofSheets x, int kind, int a, int b, int c) {
        switch (kind) {
            case 0: return x.put(a);
            case 1: return x.begin();
            case 2: return x.send(a);
            case 3: return x.bring(a);
            case 4: return x.lose(a);
            case 5: return x.find(a);
            case 6: return x.merge(a);
            case 7: return x.sheet(a, b);
            case 8: return x.written(a, b, c);
            case 9: return x.undo();
            case 10: return x.count(a);
            case 11: return x.at(a);
            case 12: return x.mark(a, b);
            case 13: return x.answer(a, b);
            case 14: return x.against(a, b);
            case 15: return x.next();
            case 16: return x.finish();
            case 17: return x.would(a);
            case 18: return x.again(a);
            case 19: return x.reader(a, b);
            case 20: return x.type(a);
            case 21: return x.clearText();
            case 22: return x.fault(a, b);
            default: return x.write(a);
        }
    }

    private int wanted(int kind, int a, int b, int c) {
        switch (kind) {
            case 0: return model.put(a);
            case 1: return model.begin();
            case 2: return model.send(a);
            case 3: return model.bring(a);
            case 4: return model.lose(a);
            case 5: return model.find(a);
            case 6: return model.merge(a);
            case 7: return model.sheet(a, b);
            case 8: return model.written(a, b, c);
            case 9: return model.undo();
            case 10: return model.count(a);
            case 11: return model.at(a);
            case 12: return model.mark(a, b);
            case 13: return model.answer(a, b);
            case 14: return model.against(a, b);
            case 15: return model.next();
            case 16: return model.finish();
            case 17: return model.would(a);
            case 18: return model.again(a);
            case 19: return model.reader(a, b);
            case 20: return model.type(a);
            case 21: return model.clearText();
            case 22: return model.fault(a, b);
            default: return model.write(a);
        }
    }

    private void allWasReached() {
        for (int kind = 0; kind < 24; kind++) {
            Checks.holds("kind " + kind + " was called and answered without an error, " + goodOf[kind]
                    + " times of " + callsOf[kind], goodOf[kind] > 500);
        }
        Checks.holds("a list of " + longestList + " marks", longestList >= 12);
    }

    /** What calls behind the 512th answer is free; but they come to an end and throw nothing. */
    private static void manyCalls() {
        ProofSheets x = Checks.inRoundOne(Checks.repeated('x', 100));
        RandomRunsTest drawn = new RandomRunsTest();
        int answers = 0;
        for (int i = 0; i < 200000; i++) {
            int a = drawn.below(3) == 0 ? ODD[drawn.below(ODD.length)] : drawn.below(70);
            int b = drawn.below(3) == 0 ? ODD[drawn.below(ODD.length)] : drawn.below(9);
            answers += got(x, drawn.below(24), a, b, drawn.below(6)) >= -4 ? 1 : 0;
        }
        Checks.due("answers that are numbers of the document", answers, 200000);
    }
}
