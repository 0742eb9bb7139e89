import java.util.function.Supplier;
import java.util.function.ToIntFunction;

/**
 * "Changes and errors": each error of each call changes nothing, also not in the history; of several
 * errors the right one is returned; and which calls are changes.
 */
public final class ErrorsTest {
    private static final int INVALID = -1;
    private static final int NOT_POSSIBLE = -2;
    private static final int LIMIT = -3;
    private static final int NOT_FOUND = -4;
    private static final int[] FAR = {Integer.MIN_VALUE, Integer.MAX_VALUE};

    public static void main(String[] args) {
        errorsInRound0();
        errorsWithAFullText();
        errorsOfNumbersOfSheets();
        errorsOfStatuses();
        errorsOfWrite();
        errorsOfSend();
        errorsOfTheList();
        errorsOfFinish();
        errorsOfQueries();
        errorsOfMarkTexts();
        invalidBeforeNotPossible();
        invalidBeforeLimit();
        invalidBeforeNotFound();
        notPossibleBeforeLimit();
        queriesChangeNothing();
        changesAreRecorded();
        markTextIsNotRecorded();
        statesWithoutTheMarkText();
        statesOfTheRoundBefore();
        Checks.end("ErrorsTest");
    }

    // ---- states to begin from

    private static ProofSheets empty() {
        return new ProofSheets();
    }

    private static ProofSheets set() {
        ProofSheets x = Checks.withText("abcdef");
        Checks.typed(x, "cap 0;x");
        return x;
    }

    private static ProofSheets full() {
        return Checks.withText(Checks.repeated('x', 100));
    }

    private static ProofSheets begun() {
        return Checks.inRoundOne("abcdef");
    }

    /** Sheets 0 to 3: out, back, lost, merged; a list of four: accepted, refused, against it, open; no fault. */
    private static ProofSheets busy() {
        ProofSheets x = Checks.inRoundOne("abcdef");
        String[] sheets = {"rep 0 y;", "ask 1;cap 1;", "cap 3;", "rep 0 x;cap 1;rep 0 z;ask 4;"};
        for (int sheet = 0; sheet < 4; sheet++) {
            x.send(sheet);
            Checks.write(x, sheet, sheets[sheet]);
        }
        x.bring(1);
        x.lose(2);
        x.bring(3);
        x.merge(3);
        x.answer(0, 0);
        x.answer(1, 1);
        Checks.typed(x, "swap 2;cap 5;");
        return x;
    }

    /** The same with a mark text that has a fault for each sheet. */
    private static ProofSheets busyWithAFault() {
        ProofSheets x = busy();
        Checks.typed(x, "swap 2;cap 6;");
        return x;
    }

    /** Eight sheets, of which the reader 0 has one that is out. */
    private static ProofSheets eightSheets() {
        ProofSheets x = begun();
        for (int sheet = 0; sheet < 8; sheet++) {
            x.send(0);
            if (sheet < 7) {
                x.lose(sheet);
            }
        }
        return x;
    }

    private static ProofSheets fullSheet() {
        ProofSheets x = Checks.withMarkText("abcdefgh", "cap 0;cap 1;cap 2;cap 3;cap 4;cap 5;cap 6;cap 7;");
        x.write(0);
        Checks.typed(x, "ask 0;");
        return x;
    }

    private static ProofSheets fullMarkText() {
        ProofSheets x = begun();
        x.send(0);
        Checks.typed(x, Checks.repeated('x', 80));
        return x;
    }

    private static ProofSheets allAnswered() {
        ProofSheets x = Checks.listed("abcdef", "cap 0;ins 0 x;", "cap 1;cap 0;");
        Checks.answerAll(x);
        return x;
    }

    // ---- an error changes nothing

    private static int undone(ProofSheets x, int times) {
        int left = 0;
        for (int i = 0; i < times; i++) {
            left = x.undo();
        }
        return left;
    }

    /** Tells whether an object after the call is as one without it, and so are all states of its history. */
    private static void changesNothing(String call, Supplier<ProofSheets> from, ToIntFunction<ProofSheets> made) {
        for (int back = 0; back <= 4; back++) {
            ProofSheets with = from.get();
            ProofSheets without = from.get();
            made.applyAsInt(with);
            String told = call + " changes nothing, " + back + " undone";
            Checks.due(told + ": states left", undone(with, back), undone(without, back));
            Checks.holds(told, Seen.of(with).equals(Seen.of(without)));
        }
    }

    private static void refused(String call, Supplier<ProofSheets> from, ToIntFunction<ProofSheets> made, int due) {
        Checks.sentence("A call that returns an error changes nothing.");
        Checks.due(call, made.applyAsInt(from.get()), due);
        changesNothing(call, from, made);
    }

    private static void errorsInRound0() {
        refused("put(31)", ErrorsTest::set, x -> x.put(31), INVALID);
        refused("put(127)", ErrorsTest::set, x -> x.put(127), INVALID);
        refused("begin(), empty", ErrorsTest::empty, x -> x.begin(), NOT_POSSIBLE);
        refused("undo(), empty", ErrorsTest::empty, x -> x.undo(), NOT_POSSIBLE);
        refused("send(0) in the round 0", ErrorsTest::set, x -> x.send(0), NOT_POSSIBLE);
        refused("finish() in the round 0", ErrorsTest::set, x -> x.finish(), NOT_POSSIBLE);
        refused("write(0) in the round 0", ErrorsTest::set, x -> x.write(0), INVALID);
        refused("put in the round 1", ErrorsTest::begun, x -> x.put('a'), NOT_POSSIBLE);
        refused("begin() in the round 1", ErrorsTest::begun, x -> x.begin(), NOT_POSSIBLE);
    }

    private static void errorsWithAFullText() {
        refused("put, full", ErrorsTest::full, x -> x.put('a'), LIMIT);
        refused("put(31), full", ErrorsTest::full, x -> x.put(31), INVALID);
        refused("at(100), full", ErrorsTest::full, x -> x.at(100), NOT_FOUND);
    }

    private static void errorsOfNumbersOfSheets() {
        for (int none : new int[] {-1, 4, FAR[0], FAR[1]}) {
            refused("bring(" + none + ")", ErrorsTest::busy, x -> x.bring(none), INVALID);
            refused("lose(" + none + ")", ErrorsTest::busy, x -> x.lose(none), INVALID);
            refused("find(" + none + ")", ErrorsTest::busy, x -> x.find(none), INVALID);
            refused("merge(" + none + ")", ErrorsTest::busy, x -> x.merge(none), INVALID);
            refused("write(" + none + ")", ErrorsTest::busy, x -> x.write(none), INVALID);
        }
    }

    private static void errorsOfStatuses() {
        for (int sheet = 0; sheet < 4; sheet++) {
            int number = sheet;
            if (sheet != 0) {
                refused("bring(" + sheet + ")", ErrorsTest::busy, x -> x.bring(number), NOT_POSSIBLE);
                refused("write(" + sheet + ")", ErrorsTest::busy, x -> x.write(number), NOT_POSSIBLE);
            }
            if (sheet != 1) {
                refused("merge(" + sheet + ")", ErrorsTest::busy, x -> x.merge(number), NOT_POSSIBLE);
            }
            if (sheet != 2) {
                refused("find(" + sheet + ")", ErrorsTest::busy, x -> x.find(number), NOT_POSSIBLE);
            } else {
                refused("lose(" + sheet + ")", ErrorsTest::busy, x -> x.lose(number), NOT_POSSIBLE);
            }
        }
        refused("lose(3)", ErrorsTest::busy, x -> x.lose(3), NOT_POSSIBLE);
    }

    private static void errorsOfWrite() {
        refused("write(0), a fault", ErrorsTest::busyWithAFault, x -> x.write(0), NOT_POSSIBLE);
        refused("write(0), no room", ErrorsTest::fullSheet, x -> x.write(0), NOT_POSSIBLE);
        refused("write(0), no such word", ErrorsTest::fullMarkText, x -> x.write(0), NOT_POSSIBLE);
    }

    private static void errorsOfSend() {
        refused("send(-1)", ErrorsTest::busy, x -> x.send(-1), INVALID);
        refused("send(6)", ErrorsTest::busy, x -> x.send(6), INVALID);
        refused("send(0), out", ErrorsTest::busy, x -> x.send(0), NOT_POSSIBLE);
        refused("send(1), eight sheets", ErrorsTest::eightSheets, x -> x.send(1), LIMIT);
        refused("send(0), eight sheets, out", ErrorsTest::eightSheets, x -> x.send(0), NOT_POSSIBLE);
    }

    private static void errorsOfTheList() {
        for (int none : new int[] {-1, 4, FAR[0], FAR[1]}) {
            refused("answer(" + none + ", 0)", ErrorsTest::busy, x -> x.answer(none, 0), INVALID);
            refused("mark(" + none + ", 0)", ErrorsTest::busy, x -> x.mark(none, 0), INVALID);
            refused("against(" + none + ", 0)", ErrorsTest::busy, x -> x.against(none, 0), INVALID);
            refused("against(0, " + none + ")", ErrorsTest::busy, x -> x.against(0, none), INVALID);
        }
        for (int answer : new int[] {-1, 2, FAR[0], FAR[1]}) {
            refused("answer(3, " + answer + ")", ErrorsTest::busy, x -> x.answer(3, answer), INVALID);
        }
        for (int answer = 0; answer < 2; answer++) {
            int second = answer;
            refused("answer(0, " + answer + "), answered", ErrorsTest::busy, x -> x.answer(0, second), NOT_POSSIBLE);
            refused("answer(1, " + answer + "), answered", ErrorsTest::busy, x -> x.answer(1, second), NOT_POSSIBLE);
        }
        refused("answer(2, 0), can not be accepted", ErrorsTest::busy, x -> x.answer(2, 0), NOT_POSSIBLE);
        refused("next(), all are answered", ErrorsTest::allAnswered, x -> x.next(), NOT_FOUND);
        refused("next(), an empty list", ErrorsTest::begun, x -> x.next(), NOT_FOUND);
    }

    private static void errorsOfFinish() {
        refused("finish(), sheets and marks are left", ErrorsTest::busy, x -> x.finish(), NOT_POSSIBLE);
        refused("finish(), a sheet is out", () -> {
            ProofSheets x = allAnswered();
            x.send(0);
            return x;
        }, x -> x.finish(), NOT_POSSIBLE);
        refused("finish(), a sheet is back", () -> {
            ProofSheets x = allAnswered();
            Checks.back(x, 0, "ask 0;");
            return x;
        }, x -> x.finish(), NOT_POSSIBLE);
        refused("finish(), a mark is not answered", () -> {
            ProofSheets x = allAnswered();
            Checks.merged(x, 0, "ask 0;");
            return x;
        }, x -> x.finish(), NOT_POSSIBLE);
    }

    private static void errorsOfQueries() {
        for (int what : new int[] {-1, 5}) {
            refused("sheet(0, " + what + ")", ErrorsTest::busy, x -> x.sheet(0, what), INVALID);
            refused("written(0, 0, " + what + ")", ErrorsTest::busy, x -> x.written(0, 0, what), INVALID);
        }
        refused("sheet(4, 0)", ErrorsTest::busy, x -> x.sheet(4, 0), INVALID);
        refused("written(4, 0, 0)", ErrorsTest::busy, x -> x.written(4, 0, 0), INVALID);
        refused("written(0, -1, 0)", ErrorsTest::busy, x -> x.written(0, -1, 0), INVALID);
        refused("written(0, 1, 0)", ErrorsTest::busy, x -> x.written(0, 1, 0), NOT_FOUND);
        refused("written(0, 0, 2)", ErrorsTest::busy, x -> x.written(0, 0, 2), NOT_FOUND);
        refused("written(1, 0, 3)", ErrorsTest::busy, x -> x.written(1, 0, 3), NOT_FOUND);
        refused("written(0, 0, 4)", ErrorsTest::busy, x -> x.written(0, 0, 4), NOT_FOUND);
        refused("mark(0, -1)", ErrorsTest::busy, x -> x.mark(0, -1), INVALID);
        refused("mark(0, 9)", ErrorsTest::busy, x -> x.mark(0, 9), INVALID);
        refused("mark(0, 2)", ErrorsTest::busy, x -> x.mark(0, 2), NOT_FOUND);
        refused("mark(1, 3)", ErrorsTest::busy, x -> x.mark(1, 3), NOT_FOUND);
        for (int what : new int[] {-1, 9, 17, FAR[0], FAR[1]}) {
            refused("count(" + what + ")", ErrorsTest::busy, x -> x.count(what), INVALID);
        }
        for (int position : new int[] {-1, 6, FAR[0], FAR[1]}) {
            int due = position < 0 ? INVALID : NOT_FOUND;
            refused("at(" + position + ")", ErrorsTest::busy, x -> x.at(position), due);
            refused("would(" + position + ")", ErrorsTest::busy, x -> x.would(position), due);
            refused("again(" + position + ")", ErrorsTest::busy, x -> x.again(position), due);
        }
        refused("reader(-1, 0)", ErrorsTest::busy, x -> x.reader(-1, 0), INVALID);
        refused("reader(6, 0)", ErrorsTest::busy, x -> x.reader(6, 0), INVALID);
        refused("reader(0, -1)", ErrorsTest::busy, x -> x.reader(0, -1), INVALID);
        refused("reader(0, 4)", ErrorsTest::busy, x -> x.reader(0, 4), INVALID);
    }

    private static void errorsOfMarkTexts() {
        refused("type(31)", ErrorsTest::busy, x -> x.type(31), INVALID);
        refused("type(127)", ErrorsTest::busy, x -> x.type(127), INVALID);
        refused("type, full", ErrorsTest::fullMarkText, x -> x.type('x'), LIMIT);
        refused("type(127), full", ErrorsTest::fullMarkText, x -> x.type(127), INVALID);
        refused("fault(-1, 0)", ErrorsTest::busyWithAFault, x -> x.fault(-1, 0), INVALID);
        refused("fault(4, 0)", ErrorsTest::busyWithAFault, x -> x.fault(4, 0), INVALID);
        refused("fault(0, -1)", ErrorsTest::busyWithAFault, x -> x.fault(0, -1), INVALID);
        refused("fault(0, 2)", ErrorsTest::busyWithAFault, x -> x.fault(0, 2), INVALID);
        refused("fault(0, 0), no fault", ErrorsTest::busy, x -> x.fault(0, 0), NOT_FOUND);
        refused("fault(0, 1), no fault", ErrorsTest::busy, x -> x.fault(0, 1), NOT_FOUND);
    }

    // ---- several errors

    private static void invalidBeforeNotPossible() {
        Checks.sentence("INVALID_ARGUMENT is returned rather than NOT_POSSIBLE");
        Checks.due("put(31) in the round 1", begun().put(31), INVALID);
        Checks.due("put(127) in the round 1", begun().put(127), INVALID);
        Checks.due("send(-1) in the round 0", set().send(-1), INVALID);
        Checks.due("send(6) in the round 0", set().send(6), INVALID);
        Checks.due("send(6), others are out", busy().send(6), INVALID);
        Checks.due("answer(0, 2), answered", busy().answer(0, 2), INVALID);
        Checks.due("answer(0, -1), answered", busy().answer(0, -1), INVALID);
        Checks.due("answer(2, 2), can not be accepted", busy().answer(2, 2), INVALID);
        Checks.due("answer(4, 0)", busy().answer(4, 0), INVALID);
        Checks.due("write(4), a fault for each sheet", busyWithAFault().write(4), INVALID);
        Checks.due("write(-1), a fault for each sheet", busyWithAFault().write(-1), INVALID);
    }

    private static void invalidBeforeLimit() {
        Checks.sentence("INVALID_ARGUMENT is returned rather than NOT_POSSIBLE, "
                + "NOT_POSSIBLE rather than LIMIT_REACHED");
        Checks.due("put(31), full", full().put(31), INVALID);
        Checks.due("put(127), full", full().put(127), INVALID);
        Checks.due("send(-1), eight sheets", eightSheets().send(-1), INVALID);
        Checks.due("send(6), eight sheets", eightSheets().send(6), INVALID);
        Checks.due("type(31), full", fullMarkText().type(31), INVALID);
        Checks.due("type(127), full", fullMarkText().type(127), INVALID);
        ProofSheets x = full();
        x.begin();
        Checks.due("put(31) in the round 1, full", x.put(31), INVALID);
    }

    /** No call has both LIMIT_REACHED and NOT_FOUND; so what stands ahead of NOT_FOUND is INVALID_ARGUMENT. */
    private static void invalidBeforeNotFound() {
        Checks.sentence("LIMIT_REACHED rather than NOT_FOUND");
        Checks.due("written(0, 1, 5), not so many", busy().written(0, 1, 5), INVALID);
        Checks.due("written(0, 1, -1), not so many", busy().written(0, 1, -1), INVALID);
        Checks.due("written(4, 1, 0), not so many", busy().written(4, 1, 0), INVALID);
        Checks.due("written(4, 0, 2)", busy().written(4, 0, 2), INVALID);
        Checks.due("written(0, -1, 2), no del", busy().written(0, -1, 2), INVALID);
        Checks.due("mark(4, 2)", busy().mark(4, 2), INVALID);
        Checks.due("mark(-1, 3)", busy().mark(-1, 3), INVALID);
        Checks.due("fault(4, 0), no fault", busy().fault(4, 0), INVALID);
        Checks.due("fault(0, 2), no fault", busy().fault(0, 2), INVALID);
        Checks.due("fault(0, -1), no fault", busy().fault(0, -1), INVALID);
        Checks.due("at(-1), empty", empty().at(-1), INVALID);
        Checks.due("would(-1), empty", empty().would(-1), INVALID);
        Checks.due("again(-1), empty", empty().again(-1), INVALID);
    }

    private static void notPossibleBeforeLimit() {
        Checks.sentence("NOT_POSSIBLE rather than LIMIT_REACHED");
        ProofSheets x = full();
        x.begin();
        Checks.due("put in the round 1, full", x.put('a'), NOT_POSSIBLE);
        Checks.due("send(0), out, eight sheets", eightSheets().send(0), NOT_POSSIBLE);
        Checks.due("send(1), eight sheets", eightSheets().send(1), LIMIT);
    }

    // ---- changes

    private static void queriesChangeNothing() {
        Checks.sentence("The changes are the calls of put, begin, send, write, bring, lose, find, merge, answer "
                + "and finish");
        changesNothing("sheet(1, 3)", ErrorsTest::busy, x -> x.sheet(1, 3));
        changesNothing("written(1, 1, 4)", ErrorsTest::busy, x -> x.written(1, 1, 4));
        changesNothing("count(8)", ErrorsTest::busy, x -> x.count(8));
        changesNothing("count(16)", ErrorsTest::busy, x -> x.count(16));
        changesNothing("at(5)", ErrorsTest::busy, x -> x.at(5));
        changesNothing("mark(2, 8)", ErrorsTest::busy, x -> x.mark(2, 8));
        changesNothing("against(0, 2)", ErrorsTest::busy, x -> x.against(0, 2));
        changesNothing("next()", ErrorsTest::busy, x -> x.next());
        changesNothing("would(0)", ErrorsTest::allAnswered, x -> x.would(0));
        changesNothing("again(0)", ErrorsTest::allAnswered, x -> x.again(0));
        changesNothing("reader(3, 2)", ErrorsTest::busy, x -> x.reader(3, 2));
        changesNothing("fault(0, 0)", ErrorsTest::busyWithAFault, x -> x.fault(0, 0));
        changesNothing("fault(0, 1), no fault", ErrorsTest::busy, x -> x.fault(0, 1));
        changesNothing("clearText(), empty", ErrorsTest::begun, x -> x.clearText());
    }

    /** The object with the same state and an empty history: four changes forgot the states ahead of them. */
    private static ProofSheets withoutHistory(ProofSheets x) {
        boolean isSet = x.count(1) == 0;
        for (int i = 0; i < 4; i++) {
            int made = isSet ? x.put('z') : i == 0 ? x.send(5) : i % 2 == 1
                    ? x.lose(x.count(2) - 1) : x.find(x.count(2) - 1);
            Checks.holds("a change to be undone", made >= 0);
        }
        Checks.due("four undone", undone(x, 4), 0);
        return x;
    }

    /** Of a change: it is recorded, in a history of 0 and of 4 states, and undone all is as before. */
    private static void recorded(String call, Supplier<ProofSheets> from, ToIntFunction<ProofSheets> made) {
        Supplier<ProofSheets> forgotten = () -> withoutHistory(from.get());
        ProofSheets x = forgotten.get();
        Checks.due(call + ": the history is empty", x.count(6), 0);
        Checks.holds(call + " is possible", made.applyAsInt(x) >= 0);
        Checks.due(call + " is recorded", x.count(6), 1);
        Checks.due(call + " leaves the mark text", x.count(7), forgotten.get().count(7));
        String after = Seen.stateOf(x);
        x = forgotten.get();
        made.applyAsInt(x);
        Checks.due(call + " is undone", x.undo(), 0);
        Checks.holds(call + " undone, all is as before", Seen.of(x).equals(Seen.of(forgotten.get())));
        x = forgotten.get();
        made.applyAsInt(x);
        x.undo();
        made.applyAsInt(x);
        Checks.holds(call + " again does the same", Seen.stateOf(x).equals(after));
        inAFullHistory(call, from, made);
    }

    private static void inAFullHistory(String call, Supplier<ProofSheets> from, ToIntFunction<ProofSheets> made) {
        for (int back = 1; back <= 4; back++) {
            ProofSheets x = from.get();
            ProofSheets without = from.get();
            Checks.due(call + ": the history is full", x.count(6), 4);
            made.applyAsInt(x);
            Checks.due(call + ": the history is full then", x.count(6), 4);
            undone(x, back);
            undone(without, back - 1);
            Checks.due(call + ": states left", x.count(6), 4 - back);
            Checks.holds(call + ": " + back + " undone", Seen.stateOf(x).equals(Seen.stateOf(without)));
            if (back == 4) {
                Checks.due(call + ": the oldest one is dropped", x.undo(), NOT_POSSIBLE);
            }
        }
    }

    private static void changesAreRecorded() {
        Checks.sentence("each change records everything before it but the mark text, and if there are 5 states "
                + "then, the oldest one is dropped");
        recorded("put", ErrorsTest::set, x -> x.put('x'));
        recorded("begin", ErrorsTest::set, x -> x.begin());
        recorded("send", ErrorsTest::begun, x -> x.send(0));
        recorded("send", ErrorsTest::busy, x -> x.send(1));
        recorded("write", ErrorsTest::busy, x -> x.write(0));
        recorded("bring", ErrorsTest::busy, x -> x.bring(0));
        recorded("lose, out", ErrorsTest::busy, x -> x.lose(0));
        recorded("lose, back", ErrorsTest::busy, x -> x.lose(1));
        recorded("find", ErrorsTest::busy, x -> x.find(2));
        recorded("merge", ErrorsTest::busy, x -> x.merge(1));
        recorded("answer, accepted", ErrorsTest::busy, x -> x.answer(3, 0));
        recorded("answer, refused", ErrorsTest::busy, x -> x.answer(2, 1));
        recorded("finish", ErrorsTest::allAnswered, x -> x.finish());
        recorded("finish, a sheet is lost", () -> {
            ProofSheets x = allAnswered();
            x.lose(Checks.back(x, 0, "ask 0;"));
            return x;
        }, x -> x.finish());
        recorded("write of an empty mark text", () -> {
            ProofSheets x = busy();
            x.clearText();
            return x;
        }, x -> x.write(0));
    }

    private static void markTextIsNotRecorded() {
        Checks.sentence("each change records everything before it but the mark text");
        ProofSheets x = withoutHistory(begun());
        x.type('a');
        Checks.due("type is no change", x.count(6), 0);
        x.clearText();
        Checks.due("clearText is no change", x.count(6), 0);
        x.send(0);
        x.undo();
        Checks.due("undo is no change", x.count(6), 0);
        Checks.due("undo", x.undo(), NOT_POSSIBLE);
    }

    private static void statesWithoutTheMarkText() {
        Checks.sentence("each change records everything before it but the mark text");
        ProofSheets x = Checks.withMarkText("abcdef", "cap 0;");
        x.write(0);
        Checks.typed(x, "cap 1;x");
        x.undo();
        Checks.due("count(7), write is undone", x.count(7), 7);
        Checks.due("the fault of the mark text", x.fault(0, 0), 6);
        x.clearText();
        x.undo();
        Checks.due("count(7), send is undone", x.count(7), 0);
        x.send(1);
        Checks.typed(x, "cap 1;");
        x.lose(0);
        x.finish();
        Checks.due("count(7), in the next round", x.count(7), 6);
        x.undo();
        Checks.due("count(7), finish is undone", x.count(7), 6);
        Checks.due("fault(0, 0)", x.fault(0, 0), NOT_FOUND);
    }

    /** What the next round puts in their places is gone, when the sheets and marks of the round before are back. */
    private static void statesOfTheRoundBefore() {
        Checks.sentence("11: Restores the latest state of the history");
        ProofSheets x = allAnswered();
        String before = Seen.stateOf(x);
        Checks.due("finish", x.finish(), 7);
        Checks.due("send", x.send(4), 0);
        Checks.due("write", x.write(0), 2);
        Checks.due("send", x.send(5), 1);
        Checks.due("undo", undone(x, 4), 0);
        Checks.holds("four undone, the round before is back", Seen.stateOf(x).equals(before));
        Checks.due("the reader of the sheet 0", x.sheet(0, 0), 0);
        Checks.due("the reader of the sheet 1", x.sheet(1, 0), 1);
        x.finish();
        Checks.merged(x, 3, "ask 0;");
        Checks.due("a mark of the next round is not answered", x.mark(0, 4), 0);
        Checks.due("its sheets", x.mark(0, 5), 1);
        Checks.due("its reader", x.mark(0, 6), 3);
        x.undo();
        Checks.due("the list, the merging is undone", x.count(4), 0);
    }
}
