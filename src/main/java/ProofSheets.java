/**
 * Proof sheets of a text sent round to readers. Every row is made in the constructor and used again,
 * so that no call makes an object; the document is ../shared/DOC.md.
 */
public final class ProofSheets {
    public static final int INVALID_ARGUMENT = -1;
    public static final int NOT_POSSIBLE = -2;
    public static final int LIMIT_REACHED = -3;
    public static final int NOT_FOUND = -4;

    private static final int TEXT_ROOM = 100;
    private static final int SHEET_ROOM = 8;
    private static final int MARKS_ON_A_SHEET = 8;
    private static final int LIST_ROOM = SHEET_ROOM * MARKS_ON_A_SHEET;
    private static final int READERS = 6;
    private static final int HISTORY_ROOM = 4;
    private static final int MARK_TEXT_ROOM = 80;
    private static final int LOWEST_CHARACTER = 32;
    private static final int HIGHEST_CHARACTER = 126;

    private static final int DEL = 0;
    private static final int INS = 1;
    private static final int REP = 2;
    private static final int SWAP = 3;
    private static final int CAP = 4;
    private static final int ASK = 5;

    private static final int OUT = 0;
    private static final int BACK = 1;
    private static final int LOST = 2;
    private static final int MERGED = 3;

    private static final int OPEN = 0;
    private static final int ACCEPTED = 1;
    private static final int REFUSED = 2;

    private static final int MADE = 0;
    private static final int UNITED = 1;
    private static final int ALL_ACCEPTED = 2;
    private static final int ALL_REFUSED = 3;
    private static final int LOST_FOR_GOOD = 4;
    private static final int KEPT_ACCOUNTS = 5;

    private static final int NO_FAULT = 0;
    private static final int NO_SUCH_WORD = 1;
    private static final int BAD_FORM = 2;
    private static final int BAD_POSITION = 3;
    private static final int LIKE_MARK = 4;
    private static final int NO_ROOM = 5;

    private final State now = new State();
    private final History history = new History();
    private final MarkText markText = new MarkText();
    private final Press press = new Press();

    public ProofSheets() {
    }

    // ---- text and sheets

    public int put(int character) {
        if (isNoCharacter(character)) {
            return INVALID_ARGUMENT;
        }
        if (now.round != 0) {
            return NOT_POSSIBLE;
        }
        if (now.text.used() >= TEXT_ROOM) {
            return LIMIT_REACHED;
        }
        history.record(now);
        now.text.append(character);
        return now.text.used();
    }

    public int begin() {
        if (now.round != 0 || now.text.used() == 0) {
            return NOT_POSSIBLE;
        }
        history.record(now);
        now.round = 1;
        return now.text.used();
    }

    public int send(int reader) {
        if (isNoReader(reader)) {
            return INVALID_ARGUMENT;
        }
        if (now.round == 0 || now.hasSheetOut(reader)) {
            return NOT_POSSIBLE;
        }
        if (now.sheetCount >= SHEET_ROOM) {
            return LIMIT_REACHED;
        }
        history.record(now);
        return now.addSheet(reader);
    }

    public int bring(int sheet) {
        Sheet one = now.sheetNumbered(sheet);
        if (one == null) {
            return INVALID_ARGUMENT;
        }
        if (one.status != OUT) {
            return NOT_POSSIBLE;
        }
        return putSheet(one, BACK);
    }

    public int lose(int sheet) {
        Sheet one = now.sheetNumbered(sheet);
        if (one == null) {
            return INVALID_ARGUMENT;
        }
        if (one.status != OUT && one.status != BACK) {
            return NOT_POSSIBLE;
        }
        return putSheet(one, LOST);
    }

    public int find(int sheet) {
        Sheet one = now.sheetNumbered(sheet);
        if (one == null) {
            return INVALID_ARGUMENT;
        }
        if (one.status != LOST) {
            return NOT_POSSIBLE;
        }
        return putSheet(one, BACK);
    }

    public int merge(int sheet) {
        Sheet one = now.sheetNumbered(sheet);
        if (one == null) {
            return INVALID_ARGUMENT;
        }
        if (one.status != BACK) {
            return NOT_POSSIBLE;
        }
        history.record(now);
        return now.mergeMarksOf(one);
    }

    public int sheet(int sheet, int what) {
        Sheet one = now.sheetNumbered(sheet);
        if (one == null) {
            return INVALID_ARGUMENT;
        }
        switch (what) {
            case 0:
                return one.reader;
            case 1:
                return one.status;
            case 2:
                return one.marks.used();
            case 3:
                return now.list.howManyAreListed(one.marks);
            case 4:
                return now.list.howManyMeetAnAccepted(one.marks);
            default:
                return INVALID_ARGUMENT;
        }
    }

    public int written(int sheet, int mark, int what) {
        Sheet one = now.sheetNumbered(sheet);
        if (one == null || mark < 0 || isOutside(what, 0, 4)) {
            return INVALID_ARGUMENT;
        }
        if (mark >= one.marks.used()) {
            return NOT_FOUND;
        }
        int code = one.marks.get(mark);
        if (what < 4) {
            return Mark.partOf(code, what);
        }
        int listed = now.list.codes.placeOf(code);
        return listed < 0 ? NOT_FOUND : listed;
    }

    public int undo() {
        if (history.used == 0) {
            return NOT_POSSIBLE;
        }
        history.restore(now);
        return history.used;
    }

    public int count(int what) {
        if (!isOutside(what, 10, 16)) {
            return now.account(what - 10);
        }
        switch (what) {
            case 0:
                return now.text.used();
            case 1:
                return now.round;
            case 2:
                return now.sheetCount;
            case 3:
                return now.howManySheetsAre(OUT);
            case 4:
                return now.list.codes.used();
            case 5:
                return now.list.howManyAreOpen();
            case 6:
                return history.used;
            case 7:
                return markText.signs.used();
            case 8:
                return now.list.opposedPairs();
            default:
                return INVALID_ARGUMENT;
        }
    }

    public int at(int position) {
        return characterIn(now.text, position);
    }

    // ---- the list

    public int mark(int mark, int what) {
        MarkList list = now.list;
        if (list.hasNot(mark) || isOutside(what, 0, 8)) {
            return INVALID_ARGUMENT;
        }
        switch (what) {
            case 4:
                return list.answers.get(mark);
            case 5:
                return list.sheetCounts.get(mark);
            case 6:
                return list.lowestReaders.get(mark);
            case 7:
                return list.howManyOppose(list.codes.get(mark));
            case 8:
                return list.canBeAccepted(mark) ? 1 : 0;
            default:
                return Mark.partOf(list.codes.get(mark), what);
        }
    }

    public int answer(int mark, int answer) {
        if (now.list.hasNot(mark) || isOutside(answer, 0, 1)) {
            return INVALID_ARGUMENT;
        }
        if (now.list.answers.get(mark) != OPEN) {
            return NOT_POSSIBLE;
        }
        if (answer == 0 && !now.list.canBeAccepted(mark)) {
            return NOT_POSSIBLE;
        }
        history.record(now);
        now.keepAnswer(mark, answer == 0 ? ACCEPTED : REFUSED);
        return now.list.howManyAreOpen();
    }

    public int against(int one, int other) {
        if (now.list.hasNot(one) || now.list.hasNot(other)) {
            return INVALID_ARGUMENT;
        }
        return Mark.areOpposed(now.list.codes.get(one), now.list.codes.get(other)) ? 1 : 0;
    }

    public int next() {
        int wanted = now.list.mostWanted();
        return wanted < 0 ? NOT_FOUND : wanted;
    }

    public int finish() {
        if (!now.canBeFinished()) {
            return NOT_POSSIBLE;
        }
        history.record(now);
        now.endRound(press.printAtOnce(now.text, now.list));
        return now.text.used();
    }

    public int would(int position) {
        return characterIn(press.printAtOnce(now.text, now.list), position);
    }

    public int again(int position) {
        return characterIn(press.printInTurn(now.text, now.list), position);
    }

    // ---- readers and mark texts

    public int reader(int reader, int what) {
        if (isNoReader(reader)) {
            return INVALID_ARGUMENT;
        }
        switch (what) {
            case 0:
                return now.sentTo.get(reader);
            case 1:
                return now.madeBy.get(reader);
            case 2:
                return now.mergedOf.get(reader);
            case 3:
                return now.hasSheetOut(reader) ? 1 : 0;
            default:
                return INVALID_ARGUMENT;
        }
    }

    public int type(int character) {
        if (isNoCharacter(character)) {
            return INVALID_ARGUMENT;
        }
        if (markText.signs.used() >= MARK_TEXT_ROOM) {
            return LIMIT_REACHED;
        }
        markText.signs.append(character);
        return markText.signs.used();
    }

    public int clearText() {
        int length = markText.signs.used();
        markText.signs.cutTo(0);
        return length;
    }

    public int fault(int sheet, int what) {
        Sheet one = now.sheetNumbered(sheet);
        if (one == null || isOutside(what, 0, 1)) {
            return INVALID_ARGUMENT;
        }
        markText.readFor(one.marks, now.text.used());
        if (markText.reason == NO_FAULT) {
            return NOT_FOUND;
        }
        return what == 0 ? markText.start : markText.reason;
    }

    public int write(int sheet) {
        Sheet one = now.sheetNumbered(sheet);
        if (one == null) {
            return INVALID_ARGUMENT;
        }
        if (one.status != OUT) {
            return NOT_POSSIBLE;
        }
        markText.readFor(one.marks, now.text.used());
        if (markText.reason != NO_FAULT) {
            return NOT_POSSIBLE;
        }
        history.record(now);
        now.writeOn(one, markText.codes);
        return markText.codes.used();
    }

    private int putSheet(Sheet one, int status) {
        history.record(now);
        one.status = status;
        return one.marks.used();
    }

    private static int characterIn(Row text, int position) {
        if (position < 0) {
            return INVALID_ARGUMENT;
        }
        return position < text.used() ? text.get(position) : NOT_FOUND;
    }

    private static boolean isOutside(int value, int least, int greatest) {
        return value < least || value > greatest;
    }

    private static boolean isNoCharacter(int value) {
        return isOutside(value, LOWEST_CHARACTER, HIGHEST_CHARACTER);
    }

    private static boolean isNoReader(int value) {
        return isOutside(value, 0, READERS - 1);
    }

    /**
     * Numbers in a row of fixed room. All indexes are tested here, so that no other place needs to:
     * a place that is not in use reads 0 and takes nothing, and a full row takes no more.
     */
    private static final class Row {
        private final int[] cells;
        private int used;

        Row(int room) {
            cells = new int[room < 0 ? 0 : room];
        }

        int used() {
            return used;
        }

        private boolean hasNot(int place) {
            return place < 0 || place >= used || place >= cells.length;
        }

        int get(int place) {
            return hasNot(place) ? 0 : cells[place];
        }

        void set(int place, int value) {
            if (!hasNot(place)) {
                cells[place] = value;
            }
        }

        void add(int place, int amount) {
            set(place, get(place) + amount);
        }

        void append(int value) {
            if (used >= 0 && used < cells.length) {
                cells[used] = value;
                used++;
            }
        }

        void insert(int place, int value) {
            if (place < 0 || place > used || used >= cells.length) {
                return;
            }
            append(value);
            for (int i = used - 1; i > place; i--) {
                set(i, get(i - 1));
            }
            set(place, value);
        }

        void remove(int place) {
            if (hasNot(place)) {
                return;
            }
            for (int i = place; i < used - 1; i++) {
                set(i, get(i + 1));
            }
            used--;
        }

        void cutTo(int length) {
            if (length >= 0 && length < used) {
                used = length;
            }
        }

        void fill(int length, int value) {
            used = 0;
            for (int i = 0; i < length; i++) {
                append(value);
            }
        }

        void copyFrom(Row other) {
            used = 0;
            for (int i = 0; i < other.used && i < other.cells.length && i < cells.length; i++) {
                cells[i] = other.cells[i];
                used = i + 1;
            }
        }

        int placeOf(int value) {
            for (int i = 0; i < used; i++) {
                if (get(i) == value) {
                    return i;
                }
            }
            return -1;
        }
    }

    /** A mark is one number, its code, so that two marks are like just when their codes are equal. */
    private static final class Mark {
        static int codeOf(int kind, int first, int second, int character) {
            return kind << 24 | first << 16 | second << 8 | character;
        }

        static int kindOf(int code) {
            return code >> 24;
        }

        static int firstOf(int code) {
            return code >> 16 & 255;
        }

        static int secondOf(int code) {
            return code >> 8 & 255;
        }

        static int characterOf(int code) {
            return code & 255;
        }

        static boolean takesCharacter(int kind) {
            return kind == INS || kind == REP;
        }

        static int partOf(int code, int what) {
            switch (what) {
                case 0:
                    return kindOf(code);
                case 1:
                    return firstOf(code);
                case 2:
                    return kindOf(code) == DEL ? secondOf(code) : NOT_FOUND;
                default:
                    return takesCharacter(kindOf(code)) ? characterOf(code) : NOT_FOUND;
            }
        }

        static boolean isPossible(int kind, int first, int second, int length) {
            switch (kind) {
                case DEL:
                    return first < second && second <= length;
                case INS:
                    return first <= length;
                case SWAP:
                    return first + 1 < length;
                default:
                    return first < length;
            }
        }

        /** The position behind the last one that the mark covers. */
        static int endOf(int code) {
            switch (kindOf(code)) {
                case DEL:
                    return secondOf(code);
                case INS:
                    return firstOf(code);
                case SWAP:
                    return firstOf(code) + 2;
                default:
                    return firstOf(code) + 1;
            }
        }

        static boolean areOpposed(int one, int other) {
            int kind = kindOf(one);
            int otherKind = kindOf(other);
            if (one == other || kind == ASK || otherKind == ASK) {
                return false;
            }
            if (kind == INS && otherKind == INS) {
                return firstOf(one) == firstOf(other);
            }
            // An ins has its first position for its end; so this also asks whether it stands strictly
            // inside of what the other mark covers, which is to cover both a - 1 and a.
            return firstOf(one) < endOf(other) && firstOf(other) < endOf(one);
        }
    }

    /** A sheet of the round, used again for another one in a later round. */
    private static final class Sheet {
        private final Row marks = new Row(MARKS_ON_A_SHEET);
        private int reader;
        private int status;

        void startFor(int newReader) {
            reader = newReader;
            status = OUT;
            marks.cutTo(0);
        }

        void copyFrom(Sheet other) {
            reader = other.reader;
            status = other.status;
            marks.copyFrom(other.marks);
        }
    }

    /** The list of the round: what is known of a mark stands at the mark's number in each row. */
    private static final class MarkList {
        private final Row codes = new Row(LIST_ROOM);
        private final Row answers = new Row(LIST_ROOM);
        private final Row sheetCounts = new Row(LIST_ROOM);
        private final Row lowestReaders = new Row(LIST_ROOM);

        void empty() {
            codes.cutTo(0);
            answers.cutTo(0);
            sheetCounts.cutTo(0);
            lowestReaders.cutTo(0);
        }

        void copyFrom(MarkList other) {
            codes.copyFrom(other.codes);
            answers.copyFrom(other.answers);
            sheetCounts.copyFrom(other.sheetCounts);
            lowestReaders.copyFrom(other.lowestReaders);
        }

        boolean hasNot(int number) {
            return isOutside(number, 0, codes.used() - 1);
        }

        /** Tells whether the mark was united with one of the list. */
        boolean take(int code, int reader) {
            int like = codes.placeOf(code);
            if (like >= 0) {
                sheetCounts.add(like, 1);
                lowestReaders.set(like, Math.min(lowestReaders.get(like), reader));
                return true;
            }
            codes.append(code);
            answers.append(OPEN);
            sheetCounts.append(1);
            lowestReaders.append(reader);
            return false;
        }

        int howManyAreOpen() {
            int open = 0;
            for (int i = 0; i < answers.used(); i++) {
                if (answers.get(i) == OPEN) {
                    open++;
                }
            }
            return open;
        }

        int howManyOppose(int code) {
            int opposed = 0;
            for (int i = 0; i < codes.used(); i++) {
                if (Mark.areOpposed(code, codes.get(i))) {
                    opposed++;
                }
            }
            return opposed;
        }

        int opposedPairs() {
            int twice = 0;
            for (int i = 0; i < codes.used(); i++) {
                twice += howManyOppose(codes.get(i));
            }
            return twice / 2;
        }

        boolean meetsAnAccepted(int code) {
            for (int i = 0; i < codes.used(); i++) {
                if (answers.get(i) == ACCEPTED && Mark.areOpposed(code, codes.get(i))) {
                    return true;
                }
            }
            return false;
        }

        boolean canBeAccepted(int number) {
            return answers.get(number) == OPEN && !meetsAnAccepted(codes.get(number));
        }

        int howManyAreListed(Row marks) {
            int listed = 0;
            for (int i = 0; i < marks.used(); i++) {
                if (codes.placeOf(marks.get(i)) >= 0) {
                    listed++;
                }
            }
            return listed;
        }

        int howManyMeetAnAccepted(Row marks) {
            int meeting = 0;
            for (int i = 0; i < marks.used(); i++) {
                if (meetsAnAccepted(marks.get(i))) {
                    meeting++;
                }
            }
            return meeting;
        }

        int mostWanted() {
            int best = -1;
            for (int i = 0; i < codes.used(); i++) {
                if (answers.get(i) == OPEN && (best < 0 || isMoreWanted(i, best))) {
                    best = i;
                }
            }
            return best;
        }

        private boolean isMoreWanted(int one, int other) {
            if (sheetCounts.get(one) != sheetCounts.get(other)) {
                return sheetCounts.get(one) > sheetCounts.get(other);
            }
            return Mark.firstOf(codes.get(one)) < Mark.firstOf(codes.get(other));
        }
    }

    /** All that a change records: everything but the mark text. */
    private static final class State {
        private final Row text = new Row(TEXT_ROOM);
        private final Sheet[] sheets = new Sheet[SHEET_ROOM];
        private final MarkList list = new MarkList();
        private final Row accounts = new Row(KEPT_ACCOUNTS);
        private final Row sentTo = new Row(READERS);
        private final Row madeBy = new Row(READERS);
        private final Row mergedOf = new Row(READERS);
        private int round;
        private int sheetCount;

        State() {
            for (int i = 0; i < sheets.length; i++) {
                sheets[i] = new Sheet();
            }
            accounts.fill(KEPT_ACCOUNTS, 0);
            sentTo.fill(READERS, 0);
            madeBy.fill(READERS, 0);
            mergedOf.fill(READERS, 0);
        }

        void copyFrom(State other) {
            text.copyFrom(other.text);
            list.copyFrom(other.list);
            accounts.copyFrom(other.accounts);
            sentTo.copyFrom(other.sentTo);
            madeBy.copyFrom(other.madeBy);
            mergedOf.copyFrom(other.mergedOf);
            round = other.round;
            sheetCount = other.sheetCount;
            for (int i = 0; i < sheetCount; i++) {
                copySheet(sheetNumbered(i), other.sheetNumbered(i));
            }
        }

        private static void copySheet(Sheet to, Sheet from) {
            if (to != null && from != null) {
                to.copyFrom(from);
            }
        }

        /** The sheet of the round with this number, or null if there is none. */
        Sheet sheetNumbered(int number) {
            if (number < 0 || number >= sheetCount || number >= sheets.length) {
                return null;
            }
            return sheets[number];
        }

        int addSheet(int reader) {
            sheetCount++;
            Sheet one = sheetNumbered(sheetCount - 1);
            if (one != null) {
                one.startFor(reader);
            }
            sentTo.add(reader, 1);
            return sheetCount - 1;
        }

        boolean hasSheetOut(int reader) {
            for (int i = 0; i < sheetCount; i++) {
                Sheet one = sheetNumbered(i);
                if (one != null && one.reader == reader && one.status == OUT) {
                    return true;
                }
            }
            return false;
        }

        int howManySheetsAre(int status) {
            int sheetsThere = 0;
            for (int i = 0; i < sheetCount; i++) {
                Sheet one = sheetNumbered(i);
                if (one != null && one.status == status) {
                    sheetsThere++;
                }
            }
            return sheetsThere;
        }

        int marksOnSheetsThatAre(int status) {
            int marks = 0;
            for (int i = 0; i < sheetCount; i++) {
                Sheet one = sheetNumbered(i);
                if (one != null && one.status == status) {
                    marks += one.marks.used();
                }
            }
            return marks;
        }

        int account(int number) {
            if (number == 5) {
                return marksOnSheetsThatAre(OUT) + marksOnSheetsThatAre(BACK) + marksOnSheetsThatAre(LOST);
            }
            return number == 6 ? list.howManyAreOpen() : accounts.get(number);
        }

        void writeOn(Sheet one, Row codes) {
            for (int i = 0; i < codes.used(); i++) {
                one.marks.append(codes.get(i));
            }
            accounts.add(MADE, codes.used());
            madeBy.add(one.reader, codes.used());
        }

        /** Returns how many marks were united with ones of the list. */
        int mergeMarksOf(Sheet one) {
            int united = 0;
            for (int i = 0; i < one.marks.used(); i++) {
                if (list.take(one.marks.get(i), one.reader)) {
                    united++;
                }
            }
            one.status = MERGED;
            accounts.add(UNITED, united);
            mergedOf.add(one.reader, one.marks.used());
            return united;
        }

        void keepAnswer(int number, int answer) {
            list.answers.set(number, answer);
            accounts.add(answer == ACCEPTED ? ALL_ACCEPTED : ALL_REFUSED, 1);
        }

        boolean canBeFinished() {
            return round != 0 && howManySheetsAre(OUT) == 0 && howManySheetsAre(BACK) == 0
                    && list.howManyAreOpen() == 0;
        }

        void endRound(Row newText) {
            accounts.add(LOST_FOR_GOOD, marksOnSheetsThatAre(LOST));
            text.copyFrom(newText);
            list.empty();
            sheetCount = 0;
            round++;
        }
    }

    /** The latest states, the oldest first. */
    private static final class History {
        private final State[] states = new State[HISTORY_ROOM];
        private int used;

        History() {
            for (int i = 0; i < states.length; i++) {
                states[i] = new State();
            }
        }

        void record(State now) {
            if (used >= states.length) {
                dropOldest();
            }
            if (used >= 0 && used < states.length && states[used] != null) {
                states[used].copyFrom(now);
                used++;
            }
        }

        /** The oldest state goes behind the others, where its rows are used again. */
        private void dropOldest() {
            for (int i = 0; i + 1 < states.length; i++) {
                State moved = states[i];
                states[i] = states[i + 1];
                states[i + 1] = moved;
            }
            used--;
        }

        void restore(State now) {
            int latest = used - 1;
            if (latest >= 0 && latest < states.length && states[latest] != null) {
                now.copyFrom(states[latest]);
                used = latest;
            }
        }
    }

    /** The mark text, and what the last reading of it found: its marks, up to the first fault. */
    private static final class MarkText {
        private final Row signs = new Row(MARK_TEXT_ROOM);
        private final Row codes = new Row(MARKS_ON_A_SHEET);
        private int start;
        private int cursor;
        private int reason;

        void readFor(Row marksOnSheet, int textLength) {
            codes.cutTo(0);
            cursor = 0;
            reason = NO_FAULT;
            for (int i = 0; i < MARK_TEXT_ROOM && cursor < signs.used() && reason == NO_FAULT; i++) {
                start = cursor;
                readMark(marksOnSheet, textLength);
            }
        }

        private void readMark(Row marksOnSheet, int textLength) {
            int kind = readWord();
            if (kind < 0) {
                reason = NO_SUCH_WORD;
                return;
            }
            int first = readPosition();
            int second = kind == DEL ? readPosition() : 0;
            int character = Mark.takesCharacter(kind) ? readCharacter() : 0;
            if (first < 0 || second < 0 || character < 0 || !passes(';')) {
                reason = BAD_FORM;
                return;
            }
            if (!Mark.isPossible(kind, first, second, textLength)) {
                reason = BAD_POSITION;
                return;
            }
            keep(Mark.codeOf(kind, first, second, character), marksOnSheet);
        }

        private void keep(int code, Row marksOnSheet) {
            if (marksOnSheet.placeOf(code) >= 0 || codes.placeOf(code) >= 0) {
                reason = LIKE_MARK;
            } else if (marksOnSheet.used() + codes.used() >= MARKS_ON_A_SHEET) {
                reason = NO_ROOM;
            } else {
                codes.append(code);
            }
        }

        /** Returns the kind that the word names, or -1. */
        private int readWord() {
            int end = cursor;
            for (int i = cursor; i < signs.used() && signs.get(i) >= 'a' && signs.get(i) <= 'z'; i++) {
                end = i + 1;
            }
            int kind = -1;
            for (int i = DEL; i <= ASK; i++) {
                if (spells(end, wordOf(i))) {
                    kind = i;
                }
            }
            cursor = end;
            return kind;
        }

        private static String wordOf(int kind) {
            switch (kind) {
                case DEL:
                    return "del";
                case INS:
                    return "ins";
                case REP:
                    return "rep";
                case SWAP:
                    return "swap";
                case CAP:
                    return "cap";
                default:
                    return "ask";
            }
        }

        private boolean spells(int end, String word) {
            if (end - cursor != word.length()) {
                return false;
            }
            for (int i = 0; i < word.length(); i++) {
                if (signs.get(cursor + i) != word.charAt(i)) {
                    return false;
                }
            }
            return true;
        }

        /** Returns the position behind a blank, or -1 if there is none. */
        private int readPosition() {
            if (!passes(' ')) {
                return -1;
            }
            int digits = 0;
            int position = 0;
            while (digits < 3 && signs.get(cursor) >= '0' && signs.get(cursor) <= '9') {
                position = position * 10 + signs.get(cursor) - '0';
                cursor++;
                digits++;
            }
            return digits == 0 ? -1 : position;
        }

        /** Returns the character behind a blank, or -1 if there is none. */
        private int readCharacter() {
            if (!passes(' ') || cursor >= signs.used()) {
                return -1;
            }
            cursor++;
            return signs.get(cursor - 1);
        }

        private boolean passes(int sign) {
            if (signs.get(cursor) != sign) {
                return false;
            }
            cursor++;
            return true;
        }
    }

    /** Carries the accepted marks out on paper of its own, in two ways that need nothing of each other. */
    private static final class Press {
        private static final int NOTHING = 0;

        private final Row ahead = new Row(TEXT_ROOM + 1);
        private final Row instead = new Row(TEXT_ROOM);
        private final Row turns = new Row(LIST_ROOM);
        private final Row paper = new Row(TEXT_ROOM + LIST_ROOM);

        Row printAtOnce(Row text, MarkList list) {
            ahead.fill(text.used() + 1, NOTHING);
            instead.copyFrom(text);
            for (int i = 0; i < list.codes.used(); i++) {
                if (list.answers.get(i) == ACCEPTED) {
                    arrange(list.codes.get(i), text);
                }
            }
            paper.cutTo(0);
            for (int i = 0; i < ahead.used(); i++) {
                printIfAny(ahead.get(i));
                printIfAny(instead.get(i));
            }
            paper.cutTo(TEXT_ROOM);
            return paper;
        }

        private void arrange(int code, Row text) {
            int first = Mark.firstOf(code);
            switch (Mark.kindOf(code)) {
                case DEL:
                    for (int i = first; i < Mark.secondOf(code); i++) {
                        instead.set(i, NOTHING);
                    }
                    break;
                case INS:
                    ahead.set(first, Mark.characterOf(code));
                    break;
                case REP:
                    instead.set(first, Mark.characterOf(code));
                    break;
                case SWAP:
                    instead.set(first, text.get(first + 1));
                    instead.set(first + 1, text.get(first));
                    break;
                case CAP:
                    instead.set(first, otherCase(text.get(first)));
                    break;
                default:
                    break;
            }
        }

        private void printIfAny(int character) {
            if (character != NOTHING) {
                paper.append(character);
            }
        }

        Row printInTurn(Row text, MarkList list) {
            turns.cutTo(0);
            for (int i = 0; i < list.codes.used(); i++) {
                if (list.answers.get(i) == ACCEPTED) {
                    turns.insert(turnOf(list.codes.get(i)), list.codes.get(i));
                }
            }
            paper.copyFrom(text);
            for (int i = 0; i < turns.used(); i++) {
                carryOut(turns.get(i));
            }
            paper.cutTo(TEXT_ROOM);
            return paper;
        }

        private int turnOf(int code) {
            for (int i = 0; i < turns.used(); i++) {
                if (goesBefore(code, turns.get(i))) {
                    return i;
                }
            }
            return turns.used();
        }

        private static boolean goesBefore(int one, int other) {
            if (Mark.firstOf(one) != Mark.firstOf(other)) {
                return Mark.firstOf(one) > Mark.firstOf(other);
            }
            return Mark.kindOf(one) != INS && Mark.kindOf(other) == INS;
        }

        private void carryOut(int code) {
            int first = Mark.firstOf(code);
            switch (Mark.kindOf(code)) {
                case DEL:
                    for (int i = first; i < Mark.secondOf(code); i++) {
                        paper.remove(first);
                    }
                    break;
                case INS:
                    paper.insert(first, Mark.characterOf(code));
                    break;
                case REP:
                    paper.set(first, Mark.characterOf(code));
                    break;
                case SWAP:
                    int left = paper.get(first);
                    paper.set(first, paper.get(first + 1));
                    paper.set(first + 1, left);
                    break;
                case CAP:
                    paper.set(first, otherCase(paper.get(first)));
                    break;
                default:
                    break;
            }
        }

        private static int otherCase(int character) {
            if (!isOutside(character, 'a', 'z')) {
                return character - 'a' + 'A';
            }
            return isOutside(character, 'A', 'Z') ? character : character - 'A' + 'a';
        }
    }
}
