import java.util.ArrayList;
import java.util.HashSet;
import java.util.LinkedHashSet;
import java.util.List;
import java.util.Set;

/**
 * A question, read by other means than the program's: the grammar stands here as the document writes it,
 * and the first part behind which no derivation of it is left is the wrong one (Earley's way).
 */
final class ModelQuestion {
    interface Condition {
        boolean holds(List<List<String>> columns, Set<Integer> through);
    }

    record Phrase(List<String> tokens, boolean star) {
        Set<Integer> places(List<String> text) {
            Set<Integer> places = new HashSet<>();
            for (int i = 0; !tokens.isEmpty() && i + tokens.size() <= text.size(); i++) {
                List<String> there = text.subList(i, i + tokens.size());
                int last = tokens.size() - 1;
                boolean front = there.subList(0, last).equals(tokens.subList(0, last));
                String end = there.get(last);
                if (front && (star ? end.startsWith(tokens.get(last)) : end.equals(tokens.get(last)))) {
                    places.add(i);
                }
            }
            return places;
        }
    }

    /** A part of the question: what it may be in the grammar, its text and its place. */
    private record Part(Set<String> kinds, String text, int place) {
        boolean is(String kind) {
            return kinds.contains(kind);
        }
    }

    private record Item(int rule, int dot, int from) {
    }

    private static final String[][] RULES = {
        {"START", "QUESTION"},
        {"QUESTION", "TERM"}, {"QUESTION", "QUESTION", "OR", "TERM"},
        {"TERM", "PART"}, {"TERM", "TERM", "AND", "PART"},
        {"PART", "ROW"}, {"PART", "PART", "NOT", "ROW"},
        {"ROW", "ATOM"}, {"ROW", "ROW", "ATOM"},
        {"ATOM", "(", "QUESTION", ")"}, {"ATOM", "FILTER", ":", "ATOM"}, {"ATOM", "GROUP"},
        {"FILTER", "column"}, {"FILTER", "-", "column"},
        {"GROUP", "^", "PHRASE"}, {"GROUP", "PHRASE"},
        {"GROUP", "NEAR", "(", "PHRASES", ")"}, {"GROUP", "NEAR", "(", "PHRASES", ",", "number", ")"},
        {"PHRASES", "PHRASE"}, {"PHRASES", "PHRASES", "PHRASE"},
        {"PHRASE", "STRINGS"}, {"PHRASE", "STRINGS", "*"},
        {"STRINGS", "string"}, {"STRINGS", "STRINGS", "+", "string"},
    };

    final List<Phrase> phrases = new ArrayList<>();
    private final List<Part> parts = new ArrayList<>();
    private int at;

    ModelQuestion(String text) {
        int place = 0;
        while (place < text.length()) {
            int end = place + 1;
            char c = text.charAt(place);
            if (c == '"') {
                end = text.indexOf('"', place + 1) + 1;
                parts.add(new Part(end > 0 ? Set.of("string") : Set.of(), text.substring(place, Math.max(place, end)), place));
                end = end > 0 ? end : text.length();
            } else if (Character.isLetterOrDigit(c)) {
                while (end < text.length() && Character.isLetterOrDigit(text.charAt(end))) {
                    end++;
                }
                parts.add(word(text.substring(place, end), end < text.length() && text.charAt(end) == ':', place));
            } else if (c != ' ') {
                parts.add(new Part(Set.of(String.valueOf(c)), String.valueOf(c), place));
            }
            place = end;
        }
        parts.add(new Part(Set.of("end"), "", text.length()));
    }

    private static Part word(String word, boolean colon, int place) {
        if (Set.of("OR", "AND", "NOT", "NEAR").contains(word)) {
            return new Part(Set.of(word), word, place);
        }
        Set<String> kinds = new HashSet<>();
        if (!colon) {
            kinds.add("string");
        } else if (word.equals("a") || word.equals("b")) {
            kinds.add("column");
        }
        if (word.matches("[0-9][0-9]?")) {
            kinds.add("number");
        }
        return new Part(kinds, word, place);
    }

    int wrongPlace() {
        int bad = firstUnfit();
        int over = firstOverLimit(bad);
        int first = over >= 0 ? over : bad;
        return first < 0 ? -1 : parts.get(first).place();
    }

    /** The number of the first part that no derivation takes, -1 if the whole is a question. */
    private int firstUnfit() {
        List<Set<Item>> sets = new ArrayList<>();
        sets.add(new LinkedHashSet<>(Set.of(new Item(0, 0, 0))));
        for (int i = 0; i < parts.size(); i++) {
            List<Item> open = new ArrayList<>(sets.get(i));
            Set<Item> next = new LinkedHashSet<>();
            boolean whole = false;
            for (int k = 0; k < open.size(); k++) {
                Item item = open.get(k);
                String[] rule = RULES[item.rule()];
                List<Item> more = new ArrayList<>();
                if (item.dot() == rule.length - 1) {
                    whole |= item.rule() == 0;
                    for (Item outer : item.from() == i ? open : sets.get(item.from())) {
                        String[] above = RULES[outer.rule()];
                        if (outer.dot() < above.length - 1 && above[outer.dot() + 1].equals(rule[0])) {
                            more.add(new Item(outer.rule(), outer.dot() + 1, outer.from()));
                        }
                    }
                } else if (parts.get(i).is(rule[item.dot() + 1])) {
                    next.add(new Item(item.rule(), item.dot() + 1, item.from()));
                } else {
                    for (int r = 0; r < RULES.length; r++) {
                        if (RULES[r][0].equals(rule[item.dot() + 1])) {
                            more.add(new Item(r, 0, i));
                        }
                    }
                }
                for (Item one : more) {
                    if (sets.get(i).add(one)) {
                        open.add(one);
                    }
                }
            }
            if (parts.get(i).is("end")) {
                return whole ? -1 : i;
            }
            if (next.isEmpty()) {
                return i;
            }
            sets.add(next);
        }
        return -1;
    }

    /** The first part in front of the bad one that is one phrase or one level too many; -1 if none. */
    private int firstOverLimit(int bad) {
        List<Integer> opened = new ArrayList<>();
        int depth = 0;
        int filters = 0;
        int begun = 0;
        for (int i = 0; i < (bad < 0 ? parts.size() : bad); i++) {
            Part part = parts.get(i);
            String before = i == 0 ? "" : parts.get(i - 1).text();
            if (part.is("(") && before.equals("NEAR")) {
                opened.add(0);
                filters = 0;
            } else if (part.is("(") || part.is("-") || part.is("column") && !before.equals("-")) {
                if (depth + filters >= 8) {
                    return i;
                }
                filters++;
                if (part.is("(")) {
                    opened.add(filters);
                    depth += filters;
                    filters = 0;
                }
            } else if (part.is(")")) {
                depth -= opened.remove(opened.size() - 1);
            } else if (part.is("string") && !before.equals("+") && !before.equals(",")) {
                filters = 0;
                begun++;
                if (begun > 12) {
                    return i;
                }
            }
        }
        return -1;
    }

    Condition condition() {
        at = 0;
        return alternatives();
    }

    private boolean next(String kind) {
        if (parts.get(at).is(kind)) {
            at++;
            return true;
        }
        return false;
    }

    private Condition alternatives() {
        List<Condition> all = new ArrayList<>();
        do {
            all.add(together());
        } while (next("OR"));
        return (columns, through) -> all.stream().anyMatch(c -> c.holds(columns, through));
    }

    private Condition together() {
        List<Condition> all = new ArrayList<>();
        do {
            all.add(without());
        } while (next("AND"));
        return (columns, through) -> all.stream().allMatch(c -> c.holds(columns, through));
    }

    private Condition without() {
        Condition first = sideBySide();
        List<Condition> rest = new ArrayList<>();
        while (next("NOT")) {
            rest.add(sideBySide());
        }
        return (columns, through) -> first.holds(columns, through)
            && rest.stream().noneMatch(c -> c.holds(columns, through));
    }

    private Condition sideBySide() {
        List<Condition> all = new ArrayList<>();
        do {
            all.add(atom());
        } while (!Set.of("OR", "AND", "NOT", ")", "end").containsAll(parts.get(at).kinds()));
        return (columns, through) -> all.stream().allMatch(c -> c.holds(columns, through));
    }

    private Condition atom() {
        if (next("(")) {
            Condition inner = alternatives();
            next(")");
            return inner;
        }
        boolean minus = next("-");
        if (minus || parts.get(at).is("column")) {
            int column = (parts.get(at).text().equals("a") ? 0 : 1) ^ (minus ? 1 : 0);
            at += 2;
            Condition inner = atom();
            return (columns, through) -> inner.holds(columns, through.contains(column) ? Set.of(column) : Set.of());
        }
        if (next("NEAR")) {
            return near();
        }
        boolean first = next("^");
        Phrase phrase = phrase();
        return (columns, through) -> through.stream().anyMatch(c -> first
            ? phrase.places(columns.get(c)).contains(0) : !phrase.places(columns.get(c)).isEmpty());
    }

    private Condition near() {
        next("(");
        List<Phrase> all = new ArrayList<>();
        while (parts.get(at).is("string")) {
            all.add(phrase());
        }
        int reach = 10;
        if (next(",")) {
            reach = Integer.parseInt(parts.get(at).text());
            at++;
        }
        next(")");
        int most = reach;
        return (columns, through) -> through.stream().anyMatch(c -> someNear(all, columns.get(c), most));
    }

    /** Every choice of a place for each phrase, kept as the pair of first end and last beginning. */
    private static boolean someNear(List<Phrase> all, List<String> text, int most) {
        Set<List<Integer>> choices = new HashSet<>(Set.of(List.of(1000, -1)));
        for (Phrase p : all) {
            Set<List<Integer>> more = new HashSet<>();
            for (List<Integer> choice : choices) {
                for (int place : p.places(text)) {
                    more.add(List.of(Math.min(choice.get(0), place + p.tokens().size()), Math.max(choice.get(1), place)));
                }
            }
            choices = more;
        }
        return choices.stream().anyMatch(c -> Math.max(0, c.get(1) - c.get(0)) <= most);
    }

    private Phrase phrase() {
        List<String> tokens = new ArrayList<>();
        do {
            tokens.addAll(Model.tokens(parts.get(at).text()));
            at++;
        } while (next("+"));
        Phrase phrase = new Phrase(tokens, next("*"));
        phrases.add(phrase);
        return phrase;
    }
}
