/** What can be seen of an object, told in one text, so that two objects or two states can be compared. */
final class Seen {
    private final ProofSheets x;
    private final StringBuilder told = new StringBuilder();

    private Seen(ProofSheets x) {
        this.x = x;
    }

    /** All that can be seen. */
    static String of(ProofSheets x) {
        return stateOf(x) + "history " + x.count(6);
    }

    /** All that can be seen but how many states the history has; the mark text is seen in its faults. */
    static String stateOf(ProofSheets x) {
        Seen seen = new Seen(x);
        seen.counts();
        seen.texts();
        for (int sheet = 0; sheet < x.count(2); sheet++) {
            seen.sheet(sheet);
        }
        for (int mark = 0; mark < x.count(4); mark++) {
            for (int what = 0; what <= 8; what++) {
                seen.tell("mark", x.mark(mark, what));
            }
        }
        seen.readers();
        return seen.told.toString();
    }

    private void tell(String what, int answer) {
        told.append(what).append(' ').append(answer).append('\n');
    }

    private void counts() {
        for (int what = 0; what <= 16; what++) {
            if (what != 6) {
                tell("count " + what, x.count(what));
            }
        }
        tell("next", x.next());
    }

    /** The text, and what it would be: at its end alone if it is long, so that the calls stay few. */
    private void texts() {
        int length = x.count(0);
        for (int i = 0; i <= length; i++) {
            tell("at", x.at(i));
            if (length <= 20 || i > 95) {
                tell("would", x.would(i));
                tell("again", x.again(i));
            }
        }
    }

    private void sheet(int sheet) {
        for (int what = 0; what <= 4; what++) {
            tell("sheet", x.sheet(sheet, what));
        }
        for (int mark = 0; mark < x.sheet(sheet, 2); mark++) {
            for (int what = 0; what <= 4; what++) {
                tell("written", x.written(sheet, mark, what));
            }
        }
        tell("fault", x.fault(sheet, 0));
        tell("fault", x.fault(sheet, 1));
    }

    private void readers() {
        for (int reader = 0; reader < 6; reader++) {
            for (int what = 0; what <= 3; what++) {
                tell("reader", x.reader(reader, what));
            }
        }
    }
}
