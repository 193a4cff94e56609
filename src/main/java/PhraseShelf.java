import java.util.NoSuchElementException;

/** Rows of two texts, an index of them in segments, and questions whose answers are ranked. */
public final class PhraseShelf {
    private static final int FIRST_LETTER = 32;
    private static final int LAST_LETTER = 126;
    private static final int OCTETS = 8;
    private static final int DRAFT_MOST = 96;
    private static final int TEXT_MOST = 48;
    private static final int ROWS_MOST = 24;
    private static final int COLUMNS = 2;
    private static final int MERGES_MOST = 9;
    private static final int LIMIT_MOST = 200;
    private static final int WEIGHT_MOST = 9;
    private static final int PHRASES_MOST = 12;

    private final char[] draft = new char[DRAFT_MOST];
    private final Tokens[] texts = new Tokens[COLUMNS];
    private final int[] weights = new int[COLUMNS];
    private final Store store = new Store();
    private final Store saved = new Store();
    private final Question question = new Question();
    private final Standing standing = new Standing();
    private final Answers answers = new Answers();
    private int draftLength;
    private int most;
    private int limit;
    private boolean open;
    private int wrongPlace;
    private int goodPhrases;

    public PhraseShelf() {
        for (int column = 0; column < COLUMNS; column++) {
            texts[column] = new Tokens(0);
            weights[column] = 1;
        }
        most = 3;
        limit = 20;
        wrongPlace = -1;
    }

    public int letters(long w) throws IllegalArgumentException, IndexOutOfBoundsException {
        int added = lettersIn(w);
        if (added == 0) {
            throw new IllegalArgumentException("no letter, or an octet that is none");
        }
        if (draftLength + added > DRAFT_MOST) {
            throw new IndexOutOfBoundsException("the draft is full");
        }
        for (int i = 0; i < added; i++) {
            draft[draftLength + i] = (char) octet(w, i);
        }
        draftLength += added;
        return draftLength;
    }

    public int drop() {
        int had = draftLength;
        draftLength = 0;
        return had;
    }

    public int set(int column) throws IllegalArgumentException, IndexOutOfBoundsException {
        if (!isColumn(column)) {
            throw new IllegalArgumentException("no such column");
        }
        if (draftLength > TEXT_MOST) {
            throw new IndexOutOfBoundsException("the draft is too long for a text");
        }
        Tokens text = new Tokens(draftLength);
        text.gather(draft, 0, draftLength);
        texts[column] = text;
        draftLength = 0;
        return text.count;
    }

    public int insert() throws IndexOutOfBoundsException {
        int row = store.freeRow();
        if (row == 0) {
            throw new IndexOutOfBoundsException("all rows are taken");
        }
        giveTexts(row);
        return row;
    }

    public int replace(int r) throws NoSuchElementException {
        if (store.versionOf(r) == null) {
            throw new NoSuchElementException("no such row");
        }
        return giveTexts(r);
    }

    public int delete(int r) throws NoSuchElementException {
        Version version = store.versionOf(r);
        if (version == null) {
            throw new NoSuchElementException("no such row");
        }
        store.clearRow(r);
        return version.tokens();
    }

    public void begin() throws IllegalStateException {
        if (open) {
            throw new IllegalStateException("a transaction is open");
        }
        saved.copyFrom(store);
        open = true;
    }

    public int commit() throws IllegalStateException {
        if (!open) {
            throw new IllegalStateException("no transaction is open");
        }
        open = false;
        store.flushPending(most);
        return store.segmentCount;
    }

    public int rollback() throws IllegalStateException {
        if (!open) {
            throw new IllegalStateException("no transaction is open");
        }
        open = false;
        store.copyFrom(saved);
        return store.rowCount();
    }

    public int flush() {
        store.flushPending(most);
        return store.segmentCount;
    }

    public int optimize() {
        return store.mergeAll();
    }

    public void ways(int most, int limit) throws IllegalArgumentException {
        if (most < 1 || most > MERGES_MOST || limit < 0 || limit > LIMIT_MOST) {
            throw new IllegalArgumentException("most or limit is out of range");
        }
        this.most = most;
        this.limit = limit;
    }

    public int weight(int column, int weight) throws IllegalArgumentException {
        if (!isColumn(column) || weight < 0 || weight > WEIGHT_MOST) {
            throw new IllegalArgumentException("column or weight is out of range");
        }
        int was = weights[column];
        weights[column] = weight;
        return was;
    }

    public int ask() throws IllegalArgumentException {
        int length = draftLength;
        draftLength = 0;
        boolean good = question.read(draft, length);
        wrongPlace = question.wrongPlace;
        if (!good) {
            throw new IllegalArgumentException("the draft is no question");
        }
        goodPhrases = question.phraseCount;
        standing.fill(question, store);
        answers.take(standing.rowsFound(question), store);
        answers.rank(standing, goodPhrases, weights, store);
        return answers.size;
    }

    public int wrong() {
        return wrongPlace;
    }

    public int answer(int k, boolean ranked) throws IndexOutOfBoundsException {
        if (!answers.has(k)) {
            throw new IndexOutOfBoundsException("no such answer");
        }
        return answers.rows[answers.place(k, ranked)];
    }

    public double score(int k, boolean ranked) throws IndexOutOfBoundsException {
        if (!answers.has(k)) {
            throw new IndexOutOfBoundsException("no such answer");
        }
        return answers.scores[answers.place(k, ranked)];
    }

    public int look(int r, int what) throws NoSuchElementException, IllegalArgumentException {
        Version version = store.versionOf(r);
        if (version == null) {
            throw new NoSuchElementException("no such row");
        }
        switch (what) {
            case 0:
                return version.first.count;
            case 1:
                return version.second.count;
            case 2:
                return version.entries;
            default:
                throw new IllegalArgumentException("nothing of a row has that number");
        }
    }

    public int segment(int k, int what) throws IndexOutOfBoundsException, IllegalArgumentException {
        if (k < 0 || k >= store.segmentCount) {
            throw new IndexOutOfBoundsException("no such segment");
        }
        Segment segment = store.segments[k];
        switch (what) {
            case 0:
                return segment.level;
            case 1:
                return segment.versions.length;
            case 2:
                return segment.entries;
            default:
                throw new IllegalArgumentException("nothing of a segment has that number");
        }
    }

    public int count(int what) throws IllegalArgumentException {
        switch (what) {
            case 0:
                return store.rowCount();
            case 1:
                return store.segmentCount;
            case 2:
                return store.pendingEntries;
            case 3:
                return store.versionsMade;
            case 4:
                return store.segmentsMade;
            case 5:
                return answers.size;
            case 6:
                return goodPhrases;
            case 7:
                return open ? 1 : 0;
            case 8:
                return draftLength;
            default:
                throw new IllegalArgumentException("nothing counted has that number");
        }
    }

    /** The row gets the texts that were set: how many entries they have. */
    private int giveTexts(int row) {
        int entries = store.putVersion(row, texts[0], texts[1]);
        if (store.pendingEntries > limit) {
            store.flushPending(most);
        }
        return entries;
    }

    /** How many octets of w stand before its first 0; 0 also if one of these is no letter. */
    private static int lettersIn(long w) {
        for (int i = 0; i < OCTETS; i++) {
            int octet = octet(w, i);
            if (octet == 0) {
                return i;
            }
            if (octet < FIRST_LETTER || octet > LAST_LETTER) {
                return 0;
            }
        }
        return OCTETS;
    }

    private static int octet(long w, int i) {
        return (int) (w >>> (8 * i)) & 255;
    }

    private static boolean isColumn(int column) {
        return column >= 0 && column < COLUMNS;
    }

    private static boolean isWord(char c) {
        return c >= 'a' && c <= 'z' || c >= 'A' && c <= 'Z' || c >= '0' && c <= '9';
    }

    /** Tokens one behind the other: token i is what stands in letters from starts[i] to starts[i + 1]. */
    private static final class Tokens {
        final char[] letters;
        final int[] starts;
        int count;

        Tokens(int mostLetters) {
            letters = new char[mostLetters];
            // Two tokens have a letter between them that is in neither, so no more fit.
            starts = new int[(mostLetters + 1) / 2 + 1];
        }

        /** The tokens that stand in the source from begin to end come to these. */
        void gather(char[] source, int begin, int end) {
            boolean inside = false;
            for (int i = begin; i < end; i++) {
                boolean word = isWord(source[i]);
                if (word && (inside || count + 1 < starts.length)) {
                    if (!inside) {
                        count++;
                        starts[count] = starts[count - 1];
                    }
                    addLetter(source[i]);
                }
                inside = word;
            }
        }

        private void addLetter(char c) {
            int at = starts[count];
            if (at < letters.length) {
                letters[at] = c >= 'A' && c <= 'Z' ? (char) (c - 'A' + 'a') : c;
                starts[count] = at + 1;
            }
        }

        int lengthOf(int i) {
            return starts[i + 1] - starts[i];
        }

        /** Whether token i is token j of the other, or if beginning is true a beginning of it. */
        boolean fits(int i, Tokens other, int j, boolean beginning) {
            int length = lengthOf(i);
            int otherLength = other.lengthOf(j);
            if (length > otherLength || length < otherLength && !beginning) {
                return false;
            }
            for (int k = 0; k < length; k++) {
                if (letters[starts[i] + k] != other.letters[other.starts[j] + k]) {
                    return false;
                }
            }
            return true;
        }

        int different() {
            int different = 0;
            for (int i = 0; i < count; i++) {
                if (!isEarlier(i)) {
                    different++;
                }
            }
            return different;
        }

        private boolean isEarlier(int i) {
            for (int j = 0; j < i; j++) {
                if (fits(i, this, j, false)) {
                    return true;
                }
            }
            return false;
        }
    }

    /** The texts that a row got at one time. */
    private static final class Version {
        final int number;
        final int row;
        final Tokens first;
        final Tokens second;
        final int entries;

        Version(int number, int row, Tokens first, Tokens second, int entries) {
            this.number = number;
            this.row = row;
            this.first = first;
            this.second = second;
            this.entries = entries;
        }

        Tokens text(int column) {
            return column == 0 ? first : second;
        }

        int tokens() {
            return first.count + second.count;
        }
    }

    /** Versions that were live when they were put together. */
    private static final class Segment {
        final int level;
        final Version[] versions;
        final int entries;

        Segment(int level, Version[] live, int size) {
            this.level = level;
            versions = new Version[size];
            int sum = 0;
            for (int i = 0; i < size; i++) {
                versions[i] = live[i];
                sum += live[i].entries;
            }
            entries = sum;
        }
    }

    /** What a transaction can take back: rows, pending versions and segments, the oldest first. */
    private static final class Store {
        private static final int TOP_LEVEL = 5;
        // A call makes at most one segment more than it takes away, and 512 calls are promised.
        private static final int SEGMENTS_MOST = 512;

        final Version[] rows = new Version[ROWS_MOST + 1];
        // Each version that is kept here has an entry, and a flush comes when there are over LIMIT_MOST.
        final Version[] pending = new Version[LIMIT_MOST + 1];
        final Segment[] segments = new Segment[SEGMENTS_MOST];
        final Version[] live = new Version[ROWS_MOST];
        int pendingCount;
        int pendingEntries;
        int segmentCount;
        int versionsMade;
        int segmentsMade;
        int liveCount;

        /** The version that row r has, null if there is no such row. */
        Version versionOf(int r) {
            return r >= 1 && r <= ROWS_MOST ? rows[r] : null;
        }

        int rowCount() {
            int sum = 0;
            for (int r = 1; r <= ROWS_MOST; r++) {
                if (rows[r] != null) {
                    sum++;
                }
            }
            return sum;
        }

        int tokenCount() {
            int sum = 0;
            for (int r = 1; r <= ROWS_MOST; r++) {
                if (rows[r] != null) {
                    sum += rows[r].tokens();
                }
            }
            return sum;
        }

        /** The least number that no row has, 0 if there is none. */
        int freeRow() {
            for (int r = 1; r <= ROWS_MOST; r++) {
                if (rows[r] == null) {
                    return r;
                }
            }
            return 0;
        }

        void clearRow(int r) {
            if (r >= 1 && r <= ROWS_MOST) {
                rows[r] = null;
            }
        }

        /** A new version of the row: how many entries it has. */
        int putVersion(int row, Tokens first, Tokens second) {
            versionsMade++;
            int entries = first.different() + second.different();
            Version version = new Version(versionsMade, row, first, second, entries);
            rows[row] = version;
            // One without entries never comes into a segment, so it need not be kept as pending.
            if (entries > 0 && pendingCount < pending.length) {
                pending[pendingCount] = version;
                pendingCount++;
                pendingEntries += entries;
            }
            return entries;
        }

        void flushPending(int most) {
            liveCount = 0;
            for (int i = 0; i < pendingCount; i++) {
                gatherLive(pending[i]);
            }
            pendingCount = 0;
            pendingEntries = 0;
            addSegment(0);
            for (int level = 0; level < TOP_LEVEL; level++) {
                if (segmentsOf(level) > most) {
                    mergeLevels(level, level, level + 1);
                }
            }
        }

        /** All segments are made one: how many they were. */
        int mergeAll() {
            int were = segmentCount;
            int highest = 0;
            for (int k = 0; k < segmentCount; k++) {
                highest = Math.max(highest, segments[k].level);
            }
            mergeLevels(0, TOP_LEVEL, highest);
            return were;
        }

        private int segmentsOf(int level) {
            int sum = 0;
            for (int k = 0; k < segmentCount; k++) {
                if (segments[k].level == level) {
                    sum++;
                }
            }
            return sum;
        }

        /** The segments of the levels from lowest to highest are made one of the level given. */
        private void mergeLevels(int lowest, int highest, int level) {
            liveCount = 0;
            int stay = 0;
            for (int k = 0; k < segmentCount; k++) {
                Segment segment = segments[k];
                if (segment.level < lowest || segment.level > highest) {
                    segments[stay] = segment;
                    stay++;
                } else {
                    gatherAllLive(segment);
                }
            }
            segmentCount = stay;
            addSegment(level);
        }

        private void gatherAllLive(Segment segment) {
            for (int i = 0; i < segment.versions.length; i++) {
                gatherLive(segment.versions[i]);
            }
        }

        private void gatherLive(Version version) {
            Version now = rows[version.row];
            boolean alive = now != null && now.number == version.number;
            if (alive && liveCount < live.length) {
                live[liveCount] = version;
                liveCount++;
            }
        }

        /** The live versions that were gathered are a new segment, if there are any. */
        private void addSegment(int level) {
            if (liveCount > 0 && segmentCount < SEGMENTS_MOST) {
                segments[segmentCount] = new Segment(level, live, liveCount);
                segmentCount++;
                segmentsMade++;
            }
        }

        /** All but what was made so far, which is counted on when a transaction is taken back. */
        void copyFrom(Store other) {
            for (int r = 1; r <= ROWS_MOST; r++) {
                rows[r] = other.rows[r];
            }
            pendingCount = other.pendingCount;
            for (int i = 0; i < pendingCount; i++) {
                pending[i] = other.pending[i];
            }
            pendingEntries = other.pendingEntries;
            segmentCount = other.segmentCount;
            for (int k = 0; k < segmentCount; k++) {
                segments[k] = other.segments[k];
            }
        }
    }

    /** The parts of a question, up to its end or to a letter that begins none. */
    private static final class Parts {
        static final int END = 0;
        static final int BAD = 1;
        static final int WORD = 2;
        /** A word with a ":" directly behind it; the ":" is the next part. */
        static final int FILTER = 3;
        static final int QUOTED = 4;
        static final int OR = 5;
        static final int AND = 6;
        static final int NOT = 7;
        static final int NEAR = 8;
        /** Each sign is a part of its own, whose kind is this and its place in the text of signs. */
        static final int SIGN = 9;
        static final int OPEN = 9;
        static final int CLOSE = 10;
        static final int MINUS = 11;
        static final int CARET = 12;
        static final int COMMA = 13;
        static final int PLUS = 14;
        static final int STAR = 15;
        private static final String SIGNS = "()-^,+*:";

        final int[] kinds = new int[DRAFT_MOST + 1];
        final int[] starts = new int[DRAFT_MOST + 1];
        final int[] ends = new int[DRAFT_MOST + 1];
        private char[] letters;
        private int length;

        void split(char[] source, int sourceLength) {
            letters = source;
            length = sourceLength;
            int at = 0;
            for (int i = 0; i < kinds.length; i++) {
                at = blanksEnd(at);
                starts[i] = at;
                readPart(i);
                at = ends[i];
                if (kinds[i] == END || kinds[i] == BAD) {
                    return;
                }
            }
        }

        private int blanksEnd(int from) {
            int at = from;
            while (at < length && letters[at] == ' ') {
                at++;
            }
            return at;
        }

        private void readPart(int i) {
            int start = starts[i];
            if (start >= length) {
                kinds[i] = END;
                ends[i] = start;
            } else if (isWord(letters[start])) {
                ends[i] = wordEnd(start);
                kinds[i] = wordKind(start, ends[i]);
            } else if (letters[start] == '"') {
                ends[i] = quoteEnd(start);
                kinds[i] = ends[i] > start ? QUOTED : BAD;
            } else {
                int sign = SIGNS.indexOf(letters[start]);
                kinds[i] = sign >= 0 ? SIGN + sign : BAD;
                ends[i] = start + 1;
            }
        }

        private int wordEnd(int start) {
            int at = start;
            while (at < length && isWord(letters[at])) {
                at++;
            }
            return at;
        }

        /** The place behind the closing quote, or the start if there is none. */
        private int quoteEnd(int start) {
            for (int at = start + 1; at < length; at++) {
                if (letters[at] == '"') {
                    return at + 1;
                }
            }
            return start;
        }

        private int wordKind(int start, int end) {
            if (isName(start, end, "OR")) {
                return OR;
            }
            if (isName(start, end, "AND")) {
                return AND;
            }
            if (isName(start, end, "NOT")) {
                return NOT;
            }
            if (isName(start, end, "NEAR")) {
                return NEAR;
            }
            return end < length && letters[end] == ':' ? FILTER : WORD;
        }

        private boolean isName(int start, int end, String name) {
            if (end - start != name.length()) {
                return false;
            }
            for (int i = 0; i < name.length(); i++) {
                if (letters[start + i] != name.charAt(i)) {
                    return false;
                }
            }
            return true;
        }

        /** The column whose name is part i, -1 if it is none. */
        int columnNamed(int i) {
            if (ends[i] - starts[i] != 1) {
                return -1;
            }
            int column = letters[starts[i]] - 'a';
            return isColumn(column) ? column : -1;
        }

        /** The number of one or two digits that part i is, -1 if it is none. */
        int number(int i) {
            if (kinds[i] != WORD && kinds[i] != FILTER || ends[i] - starts[i] > 2) {
                return -1;
            }
            int value = 0;
            for (int at = starts[i]; at < ends[i]; at++) {
                if (letters[at] > '9') {
                    return -1;
                }
                value = value * 10 + letters[at] - '0';
            }
            return value;
        }
    }

    /** A phrase: its tokens are those of the question from first on, as many as size tells. */
    private static final class Phrase {
        int first;
        int size;
        boolean beginning;
    }

    /** A group, or two nodes that were made before and are joined; rows has a bit for each row found. */
    private static final class Node {
        static final int GROUP = 0;

        int kind;
        Node left;
        Node right;
        int firstPhrase;
        int phraseEnd;
        int reach;
        int columns;
        int places;
        int rows;
    }

    /** A question as it was read last. */
    private static final class Question {
        private static final int DEPTH_MOST = 8;
        private static final int NODES_MOST = 2 * PHRASES_MOST;
        private static final int USUAL_REACH = 10;
        private static final int ALL_COLUMNS = 3;
        private static final int ALL_PLACES = -1;
        private static final int PLACE_0 = 1;
        /** Side by side binds closest, so it is the rank behind those of the joining words. */
        private static final int BY_SIDE = Parts.NOT + 1;

        final Tokens tokens = new Tokens(DRAFT_MOST);
        final Phrase[] phrases = new Phrase[PHRASES_MOST];
        final Node[] nodes = new Node[NODES_MOST];
        int phraseCount;
        int nodeCount;
        int wrongPlace;
        private final Parts parts = new Parts();
        private char[] letters;
        private int at;

        Question() {
            for (int i = 0; i < PHRASES_MOST; i++) {
                phrases[i] = new Phrase();
            }
            for (int i = 0; i < NODES_MOST; i++) {
                nodes[i] = new Node();
            }
        }

        /** Whether the source is a question; the last node stands for the whole then. */
        boolean read(char[] source, int length) {
            parts.split(source, length);
            letters = source;
            at = 0;
            tokens.count = 0;
            phraseCount = 0;
            nodeCount = 0;
            wrongPlace = -1;
            Node top = joined(Parts.OR, ALL_COLUMNS, 0);
            if (top != null && kind() != Parts.END) {
                top = refuse();
            }
            return top != null;
        }

        private int kind() {
            return parts.kinds[at];
        }

        private boolean takes(int kind) {
            if (kind() != kind) {
                return false;
            }
            at++;
            return true;
        }

        private Node refuse() {
            wrongPlace = parts.starts[at];
            return null;
        }

        /** Operands joined by the word of this rank, from the left; null if there is something wrong. */
        private Node joined(int rank, int columns, int depth) {
            Node node = operand(rank, columns, depth);
            for (int i = 0; i < DRAFT_MOST && node != null && goesOn(rank); i++) {
                Node right = operand(rank, columns, depth);
                node = right == null ? null : join(rank, node, right);
            }
            return node;
        }

        private Node operand(int rank, int columns, int depth) {
            return rank == BY_SIDE ? atom(columns, depth) : joined(rank + 1, columns, depth);
        }

        private boolean goesOn(int rank) {
            return rank == BY_SIDE ? beginsAtom() : takes(rank);
        }

        private boolean beginsAtom() {
            int kind = kind();
            return beginsDeeper() || beginsString() || kind == Parts.CARET || kind == Parts.NEAR;
        }

        private boolean beginsDeeper() {
            int kind = kind();
            return kind == Parts.OPEN || kind == Parts.MINUS || kind == Parts.FILTER;
        }

        private boolean beginsString() {
            int kind = kind();
            return kind == Parts.WORD || kind == Parts.QUOTED;
        }

        private Node atom(int columns, int depth) {
            if (beginsDeeper()) {
                return depth >= DEPTH_MOST ? refuse() : deeper(columns, depth + 1);
            }
            return takes(Parts.NEAR) ? near(columns) : single(columns);
        }

        private Node deeper(int columns, int depth) {
            if (takes(Parts.OPEN)) {
                Node inner = joined(Parts.OR, columns, depth);
                return inner == null || takes(Parts.CLOSE) ? inner : refuse();
            }
            boolean other = takes(Parts.MINUS);
            int column = kind() == Parts.FILTER ? parts.columnNamed(at) : -1;
            if (column < 0) {
                return refuse();
            }
            int passed = 1 << (other ? 1 - column : column);
            // The name and the ":" that is directly behind it.
            at += 2;
            return atom(columns & passed, depth);
        }

        private Node single(int columns) {
            int places = takes(Parts.CARET) ? PLACE_0 : ALL_PLACES;
            int first = phraseCount;
            return readPhrase() ? group(first, 0, columns, places) : null;
        }

        private Node near(int columns) {
            if (!takes(Parts.OPEN)) {
                return refuse();
            }
            int first = phraseCount;
            boolean good = readPhrase();
            for (int i = 0; i < DRAFT_MOST && good && beginsString(); i++) {
                good = readPhrase();
            }
            if (!good) {
                return null;
            }
            int reach = USUAL_REACH;
            if (takes(Parts.COMMA)) {
                reach = parts.number(at);
                if (reach < 0) {
                    return refuse();
                }
                at++;
            }
            return takes(Parts.CLOSE) ? group(first, reach, columns, ALL_PLACES) : refuse();
        }

        private boolean readPhrase() {
            int first = tokens.count;
            if (phraseCount >= PHRASES_MOST || !readString()) {
                refuse();
                return false;
            }
            for (int i = 0; i < DRAFT_MOST && takes(Parts.PLUS); i++) {
                if (!readString()) {
                    refuse();
                    return false;
                }
            }
            Phrase phrase = phrases[phraseCount];
            phrase.first = first;
            phrase.size = tokens.count - first;
            phrase.beginning = takes(Parts.STAR);
            phraseCount++;
            return true;
        }

        private boolean readString() {
            if (!beginsString()) {
                return false;
            }
            // The quotes may be read too: they are in no token.
            tokens.gather(letters, parts.starts[at], parts.ends[at]);
            at++;
            return true;
        }

        private Node group(int firstPhrase, int reach, int columns, int places) {
            Node node = newNode(Node.GROUP);
            if (node != null) {
                node.firstPhrase = firstPhrase;
                node.phraseEnd = phraseCount;
                node.reach = reach;
                node.columns = columns;
                node.places = places;
            }
            return node;
        }

        private Node join(int rank, Node left, Node right) {
            Node node = newNode(rank == BY_SIDE ? Parts.AND : rank);
            if (node != null) {
                node.left = left;
                node.right = right;
            }
            return node;
        }

        /** The next node that is free: a group has a phrase of its own, so there are always enough. */
        private Node newNode(int kind) {
            if (nodeCount >= NODES_MOST) {
                return refuse();
            }
            Node node = nodes[nodeCount];
            node.kind = kind;
            nodeCount++;
            return node;
        }
    }

    /** Where the phrases of a question stand: for each phrase, row and column a bit for each place. */
    private static final class Standing {
        private static final int PLACES_MOST = TEXT_MOST / 2;

        private final int[] places = new int[PHRASES_MOST * ROWS_MOST * COLUMNS];
        private Question question;

        void fill(Question asked, Store store) {
            question = asked;
            for (int p = 0; p < asked.phraseCount; p++) {
                for (int r = 1; r <= ROWS_MOST; r++) {
                    Version version = store.versionOf(r);
                    for (int column = 0; column < COLUMNS; column++) {
                        int bits = version == null ? 0 : placesIn(asked.phrases[p], version.text(column));
                        places[index(p, r, column)] = bits;
                    }
                }
            }
        }

        private static int index(int phrase, int row, int column) {
            return (phrase * ROWS_MOST + row - 1) * COLUMNS + column;
        }

        int placesOf(int phrase, int row, int column) {
            return places[index(phrase, row, column)];
        }

        private int placesIn(Phrase phrase, Tokens text) {
            int bits = 0;
            if (phrase.size > 0) {
                for (int i = 0; i + phrase.size <= text.count; i++) {
                    if (standsAt(phrase, text, i)) {
                        bits |= 1 << i;
                    }
                }
            }
            return bits;
        }

        private boolean standsAt(Phrase phrase, Tokens text, int place) {
            for (int k = 0; k < phrase.size; k++) {
                boolean beginning = phrase.beginning && k == phrase.size - 1;
                if (!question.tokens.fits(phrase.first + k, text, place + k, beginning)) {
                    return false;
                }
            }
            return true;
        }

        boolean standsIn(int phrase, int row) {
            return (placesOf(phrase, row, 0) | placesOf(phrase, row, 1)) != 0;
        }

        int rowsWith(int phrase) {
            int sum = 0;
            for (int r = 1; r <= ROWS_MOST; r++) {
                if (standsIn(phrase, r)) {
                    sum++;
                }
            }
            return sum;
        }

        /** A bit for each row that the question finds. */
        int rowsFound(Question asked) {
            int rows = 0;
            for (int i = 0; i < asked.nodeCount; i++) {
                Node node = asked.nodes[i];
                node.rows = node.kind == Node.GROUP ? rowsOfGroup(node) : rowsOfJoin(node);
                rows = node.rows;
            }
            return rows;
        }

        private static int rowsOfJoin(Node node) {
            if (node.kind == Parts.OR) {
                return node.left.rows | node.right.rows;
            }
            return node.left.rows & (node.kind == Parts.AND ? node.right.rows : ~node.right.rows);
        }

        private int rowsOfGroup(Node node) {
            int rows = 0;
            for (int r = 1; r <= ROWS_MOST; r++) {
                for (int column = 0; column < COLUMNS; column++) {
                    if ((node.columns >> column & 1) == 1 && holds(node, r, column)) {
                        rows |= 1 << r;
                    }
                }
            }
            return rows;
        }

        private boolean holds(Node node, int row, int column) {
            for (int p = node.firstPhrase; p < node.phraseEnd; p++) {
                if ((placesOf(p, row, column) & node.places) == 0) {
                    return false;
                }
            }
            return node.phraseEnd - node.firstPhrase == 1 || areNear(node, row, column);
        }

        /** Tries each place as that where the phrase that ends first ends. */
        private boolean areNear(Node node, int row, int column) {
            for (int end = 1; end <= PLACES_MOST; end++) {
                if (allReach(node, row, column, end)) {
                    return true;
                }
            }
            return false;
        }

        /** Whether each phrase has a place where it ends at this end or later and begins in reach of it. */
        private boolean allReach(Node node, int row, int column, int end) {
            for (int p = node.firstPhrase; p < node.phraseEnd; p++) {
                int from = Math.max(0, end - question.phrases[p].size);
                int to = Math.min(PLACES_MOST, end + node.reach);
                int span = (1 << (to + 1)) - (1 << from);
                if ((placesOf(p, row, column) & span) == 0) {
                    return false;
                }
            }
            return true;
        }
    }

    /** The rows that the latest good question found, with their scores as they were then. */
    private static final class Answers {
        private static final int LN_STEPS_MOST = 64;

        final int[] rows = new int[ROWS_MOST];
        final double[] scores = new double[ROWS_MOST];
        int size;
        private final int[] lengths = new int[ROWS_MOST];
        private final int[] order = new int[ROWS_MOST];

        boolean has(int k) {
            return k >= 0 && k < size;
        }

        /** Where the k-th answer is held. */
        int place(int k, boolean ranked) {
            return ranked ? order[k] : k;
        }

        /** The rows of these bits are the answers, without scores yet. */
        void take(int found, Store store) {
            size = 0;
            for (int r = 1; r <= ROWS_MOST; r++) {
                Version version = store.versionOf(r);
                if (version != null && (found >> r & 1) == 1) {
                    rows[size] = r;
                    lengths[size] = version.tokens();
                    scores[size] = 0.0;
                    size++;
                }
            }
        }

        void rank(Standing standing, int phrases, int[] weights, Store store) {
            int rowCount = store.rowCount();
            int tokenCount = store.tokenCount();
            // Without a token no phrase stands anywhere, and there is no average to divide by.
            if (rowCount > 0 && tokenCount > 0) {
                double average = (double) tokenCount / rowCount;
                for (int p = 0; p < phrases; p++) {
                    addPhrase(standing, p, weights, rarity(rowCount, standing.rowsWith(p)), average);
                }
            }
            sort();
        }

        private void addPhrase(Standing standing, int phrase, int[] weights, double rarity, double average) {
            for (int k = 0; k < size; k++) {
                int f = Integer.bitCount(standing.placesOf(phrase, rows[k], 0)) * weights[0]
                        + Integer.bitCount(standing.placesOf(phrase, rows[k], 1)) * weights[1];
                if (f > 0) {
                    scores[k] += rarity * (f * 2.2) / (f + 1.2 * (0.25 + 0.75 * lengths[k] / average));
                }
            }
        }

        private static double rarity(int rowCount, int with) {
            double ln = ln((rowCount - with + 0.5) / (with + 0.5));
            return ln > 0.0 ? ln : 0.000001;
        }

        private static double ln(double of) {
            double x = of;
            int k = 0;
            for (int i = 0; i < LN_STEPS_MOST && x >= 1.5; i++) {
                x = x / 2;
                k++;
            }
            for (int i = 0; i < LN_STEPS_MOST && x < 0.75; i++) {
                x = x * 2;
                k--;
            }
            double z = (x - 1) / (x + 1);
            double y = z * z;
            double s = 0.0;
            for (int j = 19; j >= 1; j -= 2) {
                s = s * y + 1.0 / j;
            }
            return 2 * z * s + k * 0.6931471805599453;
        }

        /** Each answer goes in front of those with a lesser score: equal ones stay by their numbers. */
        private void sort() {
            for (int k = 0; k < size; k++) {
                int to = k;
                while (to > 0 && scores[order[to - 1]] < scores[k]) {
                    order[to] = order[to - 1];
                    to--;
                }
                order[to] = k;
            }
        }
    }
}
