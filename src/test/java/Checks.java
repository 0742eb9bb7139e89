/** Counts the answers that are not the ones that are due, and holds what several tests do with sheets. */
final class Checks {
    private static int checked;
    private static int wrong;
    private static String sentence = "";

    private Checks() {
    }

    /** The words of the document that the checks from here on are made for; a wrong answer names them. */
    static void sentence(String words) {
        sentence = "\"" + words + "\": ";
    }

    static void due(String call, long got, long want) {
        checked++;
        if (got != want) {
            wrong++;
            System.out.println(sentence + call + " answered " + got + ", due is " + want);
        }
    }

    static void holds(String what, boolean held) {
        due(what, held ? 1 : 0, 1);
    }

    /** Ends the test: with exit code 1 if an answer was wrong, or if nothing was checked at all. */
    static void end(String name) {
        System.out.println(name + ": " + checked + " checks, " + wrong + " wrong");
        if (wrong != 0 || checked == 0) {
            System.exit(1);
        }
    }

    static ProofSheets withText(String text) {
        ProofSheets x = new ProofSheets();
        for (int i = 0; i < text.length(); i++) {
            due("put " + text.charAt(i), x.put(text.charAt(i)), i + 1);
        }
        return x;
    }

    static ProofSheets inRoundOne(String text) {
        ProofSheets x = withText(text);
        due("begin()", x.begin(), text.length());
        return x;
    }

    static void typed(ProofSheets x, String marks) {
        x.clearText();
        for (int i = 0; i < marks.length(); i++) {
            due("type " + marks.charAt(i), x.type(marks.charAt(i)), i + 1);
        }
    }

    static int write(ProofSheets x, int sheet, String marks) {
        typed(x, marks);
        return x.write(sheet);
    }

    /** The round 1 of the text, with a sheet that is out, and a mark text. */
    static ProofSheets withMarkText(String text, String marks) {
        ProofSheets x = inRoundOne(text);
        due("send(0)", x.send(0), 0);
        typed(x, marks);
        return x;
    }

    /** The round 1 of the text, with one merged sheet of each reader from 0. */
    static ProofSheets listed(String text, String... sheets) {
        ProofSheets x = inRoundOne(text);
        for (int reader = 0; reader < sheets.length; reader++) {
            holds("merge \"" + sheets[reader] + "\"", merged(x, reader, sheets[reader]) >= 0);
        }
        return x;
    }

    /** Answers all marks that are not answered: accepted, where that is possible. */
    static void answerAll(ProofSheets x) {
        for (int mark = 0; mark < x.count(4); mark++) {
            if (x.mark(mark, 4) == 0) {
                holds("answer(" + mark + ")", x.answer(mark, x.mark(mark, 8) == 1 ? 0 : 1) >= 0);
            }
        }
    }

    /** Sends a sheet to the reader, writes the marks on it, and brings it back. */
    static int back(ProofSheets x, int reader, String marks) {
        int sheet = x.send(reader);
        int many = write(x, sheet, marks);
        holds("write \"" + marks + "\"", many >= 0);
        due("bring " + sheet, x.bring(sheet), many);
        return sheet;
    }

    /** The same, and merges it; returns how many marks were united. */
    static int merged(ProofSheets x, int reader, String marks) {
        return x.merge(back(x, reader, marks));
    }

    static void accept(ProofSheets x, int... marks) {
        for (int mark : marks) {
            holds("answer(" + mark + ", 0)", x.answer(mark, 0) >= 0);
        }
    }

    static void text(String what, ProofSheets x, String want) {
        due(what + ": count(0)", x.count(0), want.length());
        for (int i = 0; i < want.length(); i++) {
            due(what + ": at(" + i + ")", x.at(i), want.charAt(i));
        }
        due(what + ": at behind", x.at(want.length()), ProofSheets.NOT_FOUND);
    }

    static void wouldBe(String what, ProofSheets x, String want) {
        for (int i = 0; i < want.length(); i++) {
            due(what + ": would(" + i + ")", x.would(i), want.charAt(i));
            due(what + ": again(" + i + ")", x.again(i), want.charAt(i));
        }
        due(what + ": would behind", x.would(want.length()), ProofSheets.NOT_FOUND);
        due(what + ": again behind", x.again(want.length()), ProofSheets.NOT_FOUND);
    }

    static void accountsAddUp(String what, ProofSheets x) {
        int sum = 0;
        for (int i = 11; i <= 16; i++) {
            sum += x.count(i);
        }
        due(what + ": the sum of the accounts", sum, x.count(10));
    }

    static String repeated(char character, int times) {
        StringBuilder text = new StringBuilder();
        for (int i = 0; i < times; i++) {
            text.append(character);
        }
        return text.toString();
    }
}
