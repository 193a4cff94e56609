import java.util.ArrayList;
import java.util.HashSet;
import java.util.LinkedHashSet;
import java.util.List;
import java.util.NoSuchElementException;
import java.util.Set;

/** The document once more, as plainly as can be and by other means, to compare the program with. */
final class Model {
    record Version(int row, List<List<String>> columns) {
        int entries() {
            return new HashSet<>(columns.get(0)).size() + new HashSet<>(columns.get(1)).size();
        }

        int tokens() {
            return columns.get(0).size() + columns.get(1).size();
        }
    }

    record Segment(int level, List<Version> versions) {
    }

    private String draft = "";
    private final List<List<String>> texts = new ArrayList<>(List.of(List.of(), List.of()));
    private Version[] rows = new Version[25];
    private List<Version> pending = new ArrayList<>();
    private List<Segment> segments = new ArrayList<>();
    private Version[] savedRows;
    private List<Version> savedPending;
    private List<Segment> savedSegments;
    private int most = 3;
    private int limit = 20;
    private final int[] weights = {1, 1};
    private int versionsMade;
    private int segmentsMade;
    private int wrong = -1;
    private int phrases;
    private List<Integer> found = new ArrayList<>();
    private double[] scores = new double[25];

    static List<String> tokens(String text) {
        List<String> tokens = new ArrayList<>();
        for (String token : text.split("[^a-zA-Z0-9]+")) {
            if (!token.isEmpty()) {
                tokens.add(token.toLowerCase(java.util.Locale.ROOT));
            }
        }
        return tokens;
    }

    int letters(long w) {
        StringBuilder more = new StringBuilder();
        for (long rest = w; (rest & 255) != 0; rest >>>= 8) {
            long c = rest & 255;
            if (c < 32 || c > 126) {
                throw new IllegalArgumentException();
            }
            more.append((char) c);
        }
        if (more.length() == 0) {
            throw new IllegalArgumentException();
        }
        if (draft.length() + more.length() > 96) {
            throw new IndexOutOfBoundsException();
        }
        draft += more;
        return draft.length();
    }

    int drop() {
        int had = draft.length();
        draft = "";
        return had;
    }

    int set(int column) {
        if (column != 0 && column != 1) {
            throw new IllegalArgumentException();
        }
        if (draft.length() > 48) {
            throw new IndexOutOfBoundsException();
        }
        texts.set(column, tokens(draft));
        draft = "";
        return texts.get(column).size();
    }

    private Version row(int r) {
        if (r < 1 || r > 24 || rows[r] == null) {
            throw new NoSuchElementException();
        }
        return rows[r];
    }

    private void put(int r) {
        rows[r] = new Version(r, List.copyOf(texts));
        pending.add(rows[r]);
        versionsMade++;
        if (pendingEntries() > limit) {
            flush();
        }
    }

    int insert() {
        for (int r = 1; r <= 24; r++) {
            if (rows[r] == null) {
                put(r);
                return r;
            }
        }
        throw new IndexOutOfBoundsException();
    }

    int replace(int r) {
        row(r);
        put(r);
        return rows[r].entries();
    }

    int delete(int r) {
        int had = row(r).tokens();
        rows[r] = null;
        return had;
    }

    void begin() {
        if (savedRows != null) {
            throw new IllegalStateException();
        }
        savedRows = rows.clone();
        savedPending = new ArrayList<>(pending);
        savedSegments = new ArrayList<>(segments);
    }

    int commit() {
        if (savedRows == null) {
            throw new IllegalStateException();
        }
        savedRows = null;
        return flush();
    }

    int rollback() {
        if (savedRows == null) {
            throw new IllegalStateException();
        }
        rows = savedRows;
        pending = savedPending;
        segments = savedSegments;
        savedRows = null;
        return count(0);
    }

    private void add(int level, List<Version> versions) {
        List<Version> live = new ArrayList<>();
        for (Version v : versions) {
            if (rows[v.row()] == v && v.entries() > 0) {
                live.add(v);
            }
        }
        if (!live.isEmpty()) {
            segments.add(new Segment(level, live));
            segmentsMade++;
        }
    }

    private void unite(List<Segment> some, int level) {
        List<Version> all = new ArrayList<>();
        for (Segment s : some) {
            all.addAll(s.versions());
        }
        segments.removeAll(some);
        add(level, all);
    }

    int flush() {
        List<Version> all = pending;
        pending = new ArrayList<>();
        add(0, all);
        for (int level = 0; level <= 4; level++) {
            List<Segment> same = new ArrayList<>();
            for (Segment s : segments) {
                if (s.level() == level) {
                    same.add(s);
                }
            }
            if (same.size() > most) {
                unite(same, level + 1);
            }
        }
        return segments.size();
    }

    int optimize() {
        int were = segments.size();
        int highest = 0;
        for (Segment s : segments) {
            highest = Math.max(highest, s.level());
        }
        unite(new ArrayList<>(segments), highest);
        return were;
    }

    void ways(int newMost, int newLimit) {
        if (newMost < 1 || newMost > 9 || newLimit < 0 || newLimit > 200) {
            throw new IllegalArgumentException();
        }
        most = newMost;
        limit = newLimit;
    }

    int weight(int column, int weight) {
        if (column < 0 || column > 1 || weight < 0 || weight > 9) {
            throw new IllegalArgumentException();
        }
        int was = weights[column];
        weights[column] = weight;
        return was;
    }

    int ask() {
        ModelQuestion question = new ModelQuestion(draft);
        draft = "";
        wrong = question.wrongPlace();
        if (wrong >= 0) {
            throw new IllegalArgumentException();
        }
        ModelQuestion.Condition condition = question.condition();
        phrases = question.phrases.size();
        found = new ArrayList<>();
        scores = new double[25];
        for (int r = 1; r <= 24; r++) {
            if (rows[r] != null && condition.holds(rows[r].columns(), Set.of(0, 1))) {
                found.add(r);
                scores[r] = scoreOf(rows[r], question.phrases);
            }
        }
        return found.size();
    }

    private double scoreOf(Version row, List<ModelQuestion.Phrase> all) {
        double score = 0.0;
        int rowCount = count(0);
        int tokens = 0;
        for (Version v : rows) {
            tokens += v == null ? 0 : v.tokens();
        }
        for (ModelQuestion.Phrase p : all) {
            int n = 0;
            for (Version v : rows) {
                if (v != null && p.places(v.columns().get(0)).size() + p.places(v.columns().get(1)).size() > 0) {
                    n++;
                }
            }
            double f = (double) p.places(row.columns().get(0)).size() * weights[0]
                + (double) p.places(row.columns().get(1)).size() * weights[1];
            if (f == 0) {
                continue;
            }
            double idf = ln(((double) rowCount - n + 0.5) / (n + 0.5));
            double a = (double) tokens / rowCount;
            double below = f + 1.2 * (0.25 + 0.75 * row.tokens() / a);
            score = score + (idf > 0 ? idf : 0.000001) * (f * 2.2) / below;
        }
        return score;
    }

    private static double ln(double of) {
        double x = of;
        double k = 0;
        while (x >= 1.5 || x < 0.75) {
            k = x >= 1.5 ? k + 1 : k - 1;
            x = x >= 1.5 ? x / 2 : x * 2;
        }
        double z = (x - 1) / (x + 1);
        double s = 0.0;
        for (int j = 19; j > 0; j -= 2) {
            s = s * (z * z) + 1.0 / j;
        }
        return 2 * z * s + k * 0.6931471805599453;
    }

    int wrong() {
        return wrong;
    }

    int answer(int k, boolean ranked) {
        if (k < 0 || k >= found.size()) {
            throw new IndexOutOfBoundsException();
        }
        List<Integer> order = new ArrayList<>(new LinkedHashSet<>(found));
        if (ranked) {
            order.sort((p, q) -> scores[p] != scores[q] ? (scores[p] > scores[q] ? -1 : 1) : p - q);
        }
        return order.get(k);
    }

    double score(int k, boolean ranked) {
        return scores[answer(k, ranked)];
    }

    int look(int r, int what) {
        Version v = row(r);
        if (what == 0 || what == 1) {
            return v.columns().get(what).size();
        }
        if (what == 2) {
            return v.entries();
        }
        throw new IllegalArgumentException();
    }

    int segment(int k, int what) {
        if (k < 0 || k >= segments.size()) {
            throw new IndexOutOfBoundsException();
        }
        Segment s = segments.get(k);
        int[] answers = {s.level(), s.versions().size(), s.versions().stream().mapToInt(Version::entries).sum()};
        if (what < 0 || what > 2) {
            throw new IllegalArgumentException();
        }
        return answers[what];
    }

    private int pendingEntries() {
        return pending.stream().mapToInt(Version::entries).sum();
    }

    int count(int what) {
        int rowCount = 0;
        for (Version v : rows) {
            rowCount += v == null ? 0 : 1;
        }
        int[] answers = {rowCount, segments.size(), pendingEntries(), versionsMade, segmentsMade,
            found.size(), phrases, savedRows == null ? 0 : 1, draft.length()};
        if (what < 0 || what > 8) {
            throw new IllegalArgumentException();
        }
        return answers[what];
    }
}
