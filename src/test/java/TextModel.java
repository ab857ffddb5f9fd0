import java.util.ArrayList;
import java.util.List;

/** A text again: its fault by a machine with a stack, its values by the sign that binds least. */
final class TextModel {
    private static final List<String> KEYS = List.of("first", "may", "value", "or", "and", "not");
    private static final List<String> NAMES = List.of("mould", "ink", "paper", "worth", "age", "size");

    final int fault;
    private final List<String> tokens = new ArrayList<>();
    private final List<Integer> places = new ArrayList<>();
    private final List<List<String>> parts = new ArrayList<>();

    TextModel(String text) {
        cut(text);
        fault = findFault(text.length());
        if (fault < 0) {
            for (int part = 0, at = 0; part < 3; part++) {
                int end = at;
                while (!tokens.get(end).equals(";")) {
                    end++;
                }
                parts.add(tokens.subList(at + 1, end));
                at = end + 1;
            }
        }
    }

    private void cut(String text) {
        int at = 0;
        while (at < text.length()) {
            char c = text.charAt(at);
            int end = at + 1;
            if (c == ' ' || c == '\n') {
                at = end;
                continue;
            }
            String sort = c >= 'a' && c <= 'z' ? "[a-z]" : c >= '0' && c <= '9' ? "[0-9]" : null;
            while (sort != null && end < text.length() && text.substring(end, end + 1).matches(sort)) {
                end++;
            }
            tokens.add(text.substring(at, end));
            places.add(at);
            at = end;
        }
    }

    private static boolean isOne(String token) {
        return NAMES.contains(token) || token.matches("[0-9]{1,4}");
    }

    /** Open things stand on a stack: ( not -, with a mark for each sum that has been compared. */
    private int findFault(int size) {
        List<String> open = new ArrayList<>();
        List<Boolean> compared = new ArrayList<>(List.of(false));
        String[] keys = {"first", "may", "value"};
        int at = 0;
        for (int part = 0; part < 3; part++) {
            if (at >= tokens.size()) {
                return size;
            }
            if (!tokens.get(at).equals(keys[part])) {
                return places.get(at);
            }
            at++;
            boolean wants = true, mayNot = true, ended = false;
            while (!ended) {
                if (at >= tokens.size()) {
                    return size;
                }
                String t = tokens.get(at);
                int top = compared.size() - 1;
                boolean inside = open.contains("(");
                if (wants) {
                    if (isOne(t)) {
                        close(open, "-");
                        wants = false;
                    } else if ((t.equals("(") || t.equals("-") || t.equals("not") && mayNot) && open.size() < 5) {
                        open.add(t);
                        mayNot = !t.equals("-");
                        if (t.equals("(")) {
                            compared.add(false);
                        }
                    } else {
                        return places.get(at);
                    }
                } else if (t.equals("+") || t.equals("-") || t.equals("*")) {
                    wants = true;
                    mayNot = false;
                } else if ((t.equals("<") || t.equals("=")) && !compared.get(top)) {
                    compared.set(top, true);
                    wants = true;
                    mayNot = false;
                } else if (t.equals("and") || t.equals("or")) {
                    close(open, "not");
                    compared.set(top, false);
                    wants = true;
                    mayNot = true;
                } else if (t.equals(")") && inside) {
                    close(open, "not");
                    open.remove(open.size() - 1);
                    compared.remove(top);
                    close(open, "-");
                } else if (t.equals(";") && !inside) {
                    close(open, "not");
                    compared.set(0, false);
                    ended = true;
                } else {
                    return places.get(at);
                }
                at++;
            }
        }
        return at < tokens.size() ? places.get(at) : -1;
    }

    private static void close(List<String> open, String what) {
        while (!open.isEmpty() && open.get(open.size() - 1).equals(what)) {
            open.remove(open.size() - 1);
        }
    }

    int value(int part, int mould, int ink, int paper, int worth, int age, int size) {
        return value(parts.get(part), new int[] {mould, ink, paper, worth, age, size});
    }

    /** The last sign of some that stands outside brackets and behind a one; -1: none. */
    private static int last(List<String> e, String... signs) {
        int found = -1, depth = 0;
        for (int k = 0; k < e.size(); k++) {
            String t = e.get(k);
            depth += t.equals("(") ? 1 : t.equals(")") ? -1 : 0;
            boolean behindOne = k > 0 && (isOne(e.get(k - 1)) || e.get(k - 1).equals(")"));
            if (depth == 0 && behindOne && List.of(signs).contains(t)) {
                found = k;
            }
        }
        return found;
    }

    private static int truth(boolean is) {
        return is ? 1 : 0;
    }

    private static int value(List<String> e, int[] names) {
        String[][] levels = {{"or"}, {"and"}, {"not"}, {"<", "="}, {"+", "-"}, {"*"}};
        for (String[] level : levels) {
            if (level[0].equals("not")) {
                if (e.get(0).equals("not")) {
                    return truth(value(e.subList(1, e.size()), names) == 0);
                }
                continue;
            }
            int at = last(e, level);
            if (at < 0) {
                continue;
            }
            int a = value(e.subList(0, at), names), b = value(e.subList(at + 1, e.size()), names);
            switch (e.get(at)) {
                case "or": return truth(a != 0 || b != 0);
                case "and": return truth(a != 0 && b != 0);
                case "<": return truth(a < b);
                case "=": return truth(a == b);
                case "+": return a + b;
                case "-": return a - b;
                default: return a * b;
            }
        }
        if (e.get(0).equals("-")) {
            return -value(e.subList(1, e.size()), names);
        }
        if (e.get(0).equals("(")) {
            return value(e.subList(1, e.size() - 1), names);
        }
        return NAMES.contains(e.get(0)) ? names[NAMES.indexOf(e.get(0))] : Integer.parseInt(e.get(0));
    }
}
