import java.io.IOException;
import java.nio.file.Files;
import java.nio.file.Path;
import java.util.ArrayList;
import java.util.List;

/** What README.md tells of the use of the class is so; it is run from the project's directory. */
public final class ReadmeTest {
    private static final Due DUE = new Due("ReadmeTest");

    public static void main(String[] args) throws IOException {
        List<String> lines = Files.readAllLines(Path.of("README.md"));
        PhraseShelf x = rowsAndAQuestion();
        questions(x, table(lines, "| question |"));
        noQuestions(x, table(lines, "| no question |"));
        transaction(x);
        everyCallIsTold(table(lines, "| call |"));
        DUE.end();
    }

    private static PhraseShelf rowsAndAQuestion() {
        PhraseShelf x = new PhraseShelf();
        text(x, 0, "Red cat, old hat", 4);
        text(x, 1, "The cat sat", 3);
        DUE.same("insert()", x.insert(), 1);
        text(x, 0, "Old red dog", 3);
        text(x, 1, "A dog and a cat", 5);
        DUE.same("insert()", x.insert(), 2);
        text(x, 0, "Catalog of 1984", 3);
        text(x, 1, "", 0);
        DUE.same("insert()", x.insert(), 3);
        DUE.same("ask <cat OR 1984>", Due.ask(x, "cat OR 1984"), 3);
        DUE.same("answer(0, false)", x.answer(0, false), 1);
        DUE.same("answer(0, true)", x.answer(0, true), 3);
        DUE.sameText("score(0, true)", String.valueOf(x.score(0, true)).substring(0, 6), "0.6421");
        return x;
    }

    private static void text(PhraseShelf x, int column, String text, int tokens) {
        Due.type(x, text);
        DUE.same("set " + column + " <" + text + ">", x.set(column), tokens);
    }

    private static void transaction(PhraseShelf x) {
        DUE.same("flush()", x.flush(), 1);
        x.begin();
        DUE.same("delete(1)", x.delete(1), 7);
        DUE.same("rollback()", x.rollback(), 3);
        x.begin();
        DUE.same("replace(3)", x.replace(3), 3);
        DUE.same("commit()", x.commit(), 2);
        DUE.same("segment(0, 1)", x.segment(0, 1), 3);
        DUE.same("optimize()", x.optimize(), 2);
        DUE.same("segment(0, 1)", x.segment(0, 1), 3);
    }

    /** The rows of the table whose head begins so, each as its cells. */
    private static List<String[]> table(List<String> lines, String head) {
        List<String[]> rows = new ArrayList<>();
        boolean inside = false;
        for (String line : lines) {
            inside = line.startsWith("|") && (inside || line.startsWith(head));
            if (inside && line.startsWith("| `")) {
                rows.add(line.substring(1).split("\\|"));
            }
        }
        return rows;
    }

    private static String asked(String cell) {
        return cell.substring(cell.indexOf('`') + 1, cell.lastIndexOf('`'));
    }

    private static void questions(PhraseShelf x, List<String[]> rows) {
        DUE.same("questions in README.md", rows.size(), 17);
        for (String[] row : rows) {
            DUE.finds(x, asked(row[0]), row[1].trim());
        }
    }

    private static void noQuestions(PhraseShelf x, List<String[]> rows) {
        DUE.same("wrong questions in README.md", rows.size(), 8);
        for (String[] row : rows) {
            DUE.wrongAt(x, asked(row[0]), Integer.parseInt(row[1].trim()));
        }
    }

    private static void everyCallIsTold(List<String[]> rows) {
        List<String> told = new ArrayList<>();
        for (String[] row : rows) {
            String call = asked(row[0]);
            told.add(call.substring(0, call.indexOf('(')));
        }
        DUE.sameText("the calls in README.md", told.toString(), "[letters, drop, set, insert, replace, delete, begin, "
            + "commit, rollback, flush, optimize, ways, weight, ask, wrong, answer, score, look, segment, count]");
    }
}
