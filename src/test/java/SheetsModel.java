import java.util.ArrayList;
import java.util.List;

/**
 * The document once more, in another way and with the Java library: states that are never altered
 * once they are in the history, marks that are objects, and positions covered one by one. Random
 * runs are compared with it.
 */
final class SheetsModel {
    private static final String[] WORDS = {"del", "ins", "rep", "swap", "cap", "ask"};

    private record Mark(int kind, int a, int b, int c) {
        boolean covers(int p) {
            return switch (kind) {
                case 0 -> a <= p && p < b;
                case 1 -> false;
                case 3 -> p == a || p == a + 1;
                default -> p == a;
            };
        }

        boolean against(Mark other) {
            if (equals(other) || kind == 5 || other.kind == 5) {
                return false;
            }
            for (int p = 0; p <= 100; p++) {
                if (covers(p) && other.covers(p)) {
                    return true;
                }
            }
            return kind == 1 && other.covers(a - 1) && other.covers(a)
                    || other.kind == 1 && covers(other.a - 1) && covers(other.a)
                    || kind == 1 && other.kind == 1 && a == other.a;
        }

        int part(int what) {
            return switch (what) {
                case 0 -> kind;
                case 1 -> a;
                case 2 -> kind == 0 ? b : -4;
                default -> kind == 1 || kind == 2 ? c : -4;
            };
        }
    }

    private static final class Sheet {
        int reader;
        int status;
        final List<Mark> marks = new ArrayList<>();
    }

    private static final class Listed {
        Mark mark;
        int answer;
        final List<Integer> readers = new ArrayList<>();
    }

    private static final class State {
        String text = "";
        int round;
        final List<Sheet> sheets = new ArrayList<>();
        final List<Listed> list = new ArrayList<>();
        int[] accounts = new int[5];
        int[][] readers = new int[6][3];

        State copy() {
            State copy = new State();
            copy.text = text;
            copy.round = round;
            for (Sheet sheet : sheets) {
                Sheet one = new Sheet();
                one.reader = sheet.reader;
                one.status = sheet.status;
                one.marks.addAll(sheet.marks);
                copy.sheets.add(one);
            }
            for (Listed listed : list) {
                Listed one = new Listed();
                one.mark = listed.mark;
                one.answer = listed.answer;
                one.readers.addAll(listed.readers);
                copy.list.add(one);
            }
            copy.accounts = accounts.clone();
            for (int i = 0; i < 6; i++) {
                copy.readers[i] = readers[i].clone();
            }
            return copy;
        }
    }

    private State s = new State();
    private final List<State> history = new ArrayList<>();
    private String typed = "";

    private void change() {
        history.add(s.copy());
        if (history.size() > 4) {
            history.remove(0);
        }
    }

    private boolean hasSheet(int sheet) {
        return sheet >= 0 && sheet < s.sheets.size();
    }

    private long sheetsOf(int status) {
        return s.sheets.stream().filter(one -> one.status == status).count();
    }

    private boolean isOut(int reader) {
        return s.sheets.stream().anyMatch(one -> one.reader == reader && one.status == 0);
    }

    private int open() {
        return (int) s.list.stream().filter(one -> one.answer == 0).count();
    }

    private int indexOf(Mark mark) {
        for (int i = 0; i < s.list.size(); i++) {
            if (s.list.get(i).mark.equals(mark)) {
                return i;
            }
        }
        return -4;
    }

    private boolean blocked(Mark mark) {
        return s.list.stream().anyMatch(one -> one.answer == 1 && one.mark.against(mark));
    }

    int put(int character) {
        if (character < 32 || character > 126) {
            return -1;
        }
        if (s.round > 0) {
            return -2;
        }
        if (s.text.length() == 100) {
            return -3;
        }
        change();
        s.text += (char) character;
        return s.text.length();
    }

    int begin() {
        if (s.round > 0 || s.text.isEmpty()) {
            return -2;
        }
        change();
        s.round = 1;
        return s.text.length();
    }

    int send(int reader) {
        if (reader < 0 || reader > 5) {
            return -1;
        }
        if (s.round == 0 || isOut(reader)) {
            return -2;
        }
        if (s.sheets.size() == 8) {
            return -3;
        }
        change();
        Sheet one = new Sheet();
        one.reader = reader;
        s.sheets.add(one);
        s.readers[reader][0]++;
        return s.sheets.size() - 1;
    }

    private int move(int sheet, int from, int otherFrom, int to) {
        if (!hasSheet(sheet)) {
            return -1;
        }
        Sheet one = s.sheets.get(sheet);
        if (one.status != from && one.status != otherFrom) {
            return -2;
        }
        change();
        one.status = to;
        return one.marks.size();
    }

    int bring(int sheet) {
        return move(sheet, 0, 0, 1);
    }

    int lose(int sheet) {
        return move(sheet, 0, 1, 2);
    }

    int find(int sheet) {
        return move(sheet, 2, 2, 1);
    }

    int merge(int sheet) {
        int moved = move(sheet, 1, 1, 3);
        if (moved < 0) {
            return moved;
        }
        Sheet one = s.sheets.get(sheet);
        int united = 0;
        for (Mark mark : one.marks) {
            int listed = indexOf(mark);
            if (listed < 0) {
                Listed added = new Listed();
                added.mark = mark;
                s.list.add(added);
                listed = s.list.size() - 1;
            } else {
                united++;
            }
            s.list.get(listed).readers.add(one.reader);
        }
        s.accounts[1] += united;
        s.readers[one.reader][2] += one.marks.size();
        return united;
    }

    int sheet(int sheet, int what) {
        if (!hasSheet(sheet) || what < 0 || what > 4) {
            return -1;
        }
        Sheet one = s.sheets.get(sheet);
        return switch (what) {
            case 0 -> one.reader;
            case 1 -> one.status;
            case 2 -> one.marks.size();
            case 3 -> (int) one.marks.stream().filter(mark -> indexOf(mark) >= 0).count();
            default -> (int) one.marks.stream().filter(this::blocked).count();
        };
    }

    int written(int sheet, int mark, int what) {
        if (!hasSheet(sheet) || mark < 0 || what < 0 || what > 4) {
            return -1;
        }
        List<Mark> marks = s.sheets.get(sheet).marks;
        if (mark >= marks.size()) {
            return -4;
        }
        return what == 4 ? indexOf(marks.get(mark)) : marks.get(mark).part(what);
    }

    int undo() {
        if (history.isEmpty()) {
            return -2;
        }
        s = history.remove(history.size() - 1);
        return history.size();
    }

    int count(int what) {
        switch (what) {
            case 0: return s.text.length();
            case 1: return s.round;
            case 2: return s.sheets.size();
            case 3: return (int) sheetsOf(0);
            case 4: return s.list.size();
            case 5: case 16: return open();
            case 6: return history.size();
            case 7: return typed.length();
            case 8: return pairs();
            case 15: return s.sheets.stream().filter(one -> one.status != 3).mapToInt(one -> one.marks.size()).sum();
            default: return what >= 10 && what <= 14 ? s.accounts[what - 10] : -1;
        }
    }

    private int pairs() {
        int pairs = 0;
        for (int i = 0; i < s.list.size(); i++) {
            for (int j = 0; j < i; j++) {
                pairs += s.list.get(i).mark.against(s.list.get(j).mark) ? 1 : 0;
            }
        }
        return pairs;
    }

    int at(int position) {
        return position < 0 ? -1 : position < s.text.length() ? s.text.charAt(position) : -4;
    }

    int mark(int mark, int what) {
        if (mark < 0 || mark >= s.list.size() || what < 0 || what > 8) {
            return -1;
        }
        Listed one = s.list.get(mark);
        return switch (what) {
            case 4 -> one.answer;
            case 5 -> one.readers.size();
            case 6 -> one.readers.stream().mapToInt(reader -> reader).min().getAsInt();
            case 7 -> (int) s.list.stream().filter(other -> other.mark.against(one.mark)).count();
            case 8 -> one.answer == 0 && !blocked(one.mark) ? 1 : 0;
            default -> one.mark.part(what);
        };
    }

    int answer(int mark, int answer) {
        if (mark < 0 || mark >= s.list.size() || answer < 0 || answer > 1) {
            return -1;
        }
        Listed one = s.list.get(mark);
        if (one.answer != 0 || answer == 0 && blocked(one.mark)) {
            return -2;
        }
        change();
        one.answer = answer + 1;
        s.accounts[2 + answer]++;
        return open();
    }

    int against(int one, int other) {
        int size = s.list.size();
        if (one < 0 || other < 0 || one >= size || other >= size) {
            return -1;
        }
        return s.list.get(one).mark.against(s.list.get(other).mark) ? 1 : 0;
    }

    int next() {
        int best = -4;
        long bestKey = Long.MIN_VALUE;
        for (int i = 0; i < s.list.size(); i++) {
            Listed one = s.list.get(i);
            long key = one.readers.size() * 1_000_000L - one.mark.a * 1000L - i;
            if (one.answer == 0 && key > bestKey) {
                best = i;
                bestKey = key;
            }
        }
        return best;
    }

    int finish() {
        if (s.round == 0 || sheetsOf(0) + sheetsOf(1) > 0 || open() > 0) {
            return -2;
        }
        change();
        s.text = newText();
        for (Sheet one : s.sheets) {
            s.accounts[4] += one.status == 2 ? one.marks.size() : 0;
        }
        s.sheets.clear();
        s.list.clear();
        s.round++;
        return s.text.length();
    }

    private String newText() {
        StringBuilder made = new StringBuilder();
        for (int p = 0; p <= s.text.length(); p++) {
            String here = p < s.text.length() ? s.text.substring(p, p + 1) : "";
            String ahead = "";
            for (Listed one : s.list) {
                Mark mark = one.mark;
                if (one.answer != 1) {
                    continue;
                }
                if (mark.kind == 1 && mark.a == p) {
                    ahead += (char) mark.c;
                } else if (mark.covers(p)) {
                    here = changed(mark, p, here);
                }
            }
            made.append(ahead).append(here);
        }
        return made.substring(0, Math.min(100, made.length()));
    }

    private String changed(Mark mark, int p, String here) {
        switch (mark.kind) {
            case 0: return "";
            case 2: return "" + (char) mark.c;
            case 3: return "" + s.text.charAt(p == mark.a ? p + 1 : p - 1);
            case 4: return here.equals(here.toUpperCase()) ? here.toLowerCase() : here.toUpperCase();
            default: return here;
        }
    }

    int would(int position) {
        String made = newText();
        return position < 0 ? -1 : position < made.length() ? made.charAt(position) : -4;
    }

    int again(int position) {
        List<Mark> turns = new ArrayList<>();
        for (Listed one : s.list) {
            if (one.answer == 1) {
                turns.add(one.mark);
            }
        }
        turns.sort((one, other) -> one.a != other.a ? other.a - one.a : (one.kind == 1 ? 1 : 0) - (other.kind == 1 ? 1 : 0));
        String text = s.text;
        for (Mark mark : turns) {
            String ahead = text.substring(0, mark.a);
            String rest = text.substring(mark.a);
            text = ahead + switch (mark.kind) {
                case 0 -> rest.substring(mark.b - mark.a);
                case 1 -> (char) mark.c + rest;
                case 2 -> (char) mark.c + rest.substring(1);
                case 3 -> rest.substring(1, 2) + rest.charAt(0) + rest.substring(2);
                case 4 -> changed(mark, mark.a, rest.substring(0, 1)) + rest.substring(1);
                default -> rest;
            };
        }
        String made = text.substring(0, Math.min(100, text.length()));
        return position < 0 ? -1 : position < made.length() ? made.charAt(position) : -4;
    }

    int reader(int reader, int what) {
        if (reader < 0 || reader > 5 || what < 0 || what > 3) {
            return -1;
        }
        return what == 3 ? (isOut(reader) ? 1 : 0) : s.readers[reader][what];
    }

    int type(int character) {
        if (character < 32 || character > 126) {
            return -1;
        }
        if (typed.length() == 80) {
            return -3;
        }
        typed += (char) character;
        return typed.length();
    }

    int clearText() {
        int length = typed.length();
        typed = "";
        return length;
    }

    /** Reads the mark text for the sheet: position and reason of the fault, or null; the marks go to read. */
    private int[] reading(Sheet sheet, List<Mark> read) {
        int start = 0;
        while (start < typed.length()) {
            String rest = typed.substring(start);
            String word = rest.replaceAll("(?s)^([a-z]*).*$", "$1");
            int kind = java.util.Arrays.asList(WORDS).indexOf(word);
            if (kind < 0) {
                return new int[] {start, 1};
            }
            String form = kind == 0 ? "del ([0-9]{1,3}) ([0-9]{1,3});"
                    : kind <= 2 ? word + " ([0-9]{1,3}) ([ -~]);" : word + " ([0-9]{1,3});";
            java.util.regex.Matcher matcher = java.util.regex.Pattern.compile(form).matcher(rest);
            if (!matcher.lookingAt()) {
                return new int[] {start, 2};
            }
            int a = Integer.parseInt(matcher.group(1));
            int b = kind == 0 ? Integer.parseInt(matcher.group(2)) : 0;
            int c = kind == 1 || kind == 2 ? matcher.group(2).charAt(0) : 0;
            int greatest = s.text.length() - (kind <= 1 ? 0 : kind == 3 ? 2 : 1);
            if (a > greatest || kind == 0 && (b > s.text.length() || a >= b)) {
                return new int[] {start, 3};
            }
            Mark mark = new Mark(kind, a, b, c);
            if (sheet.marks.contains(mark) || read.contains(mark)) {
                return new int[] {start, 4};
            }
            if (sheet.marks.size() + read.size() >= 8) {
                return new int[] {start, 5};
            }
            read.add(mark);
            start += matcher.end();
        }
        return null;
    }

    int fault(int sheet, int what) {
        if (!hasSheet(sheet) || what < 0 || what > 1) {
            return -1;
        }
        int[] fault = reading(s.sheets.get(sheet), new ArrayList<>());
        return fault == null ? -4 : fault[what];
    }

    int write(int sheet) {
        if (!hasSheet(sheet)) {
            return -1;
        }
        Sheet one = s.sheets.get(sheet);
        List<Mark> read = new ArrayList<>();
        if (one.status != 0 || reading(one, read) != null) {
            return -2;
        }
        change();
        one.marks.addAll(read);
        s.accounts[0] += read.size();
        s.readers[one.reader][1] += read.size();
        return read.size();
    }
}
