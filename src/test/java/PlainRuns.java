import java.util.ArrayList;
import java.util.List;

/** The runs of one text, as a row of pieces of which each holds what is already written of it. */
final class PlainRuns {

    static final char NOTE = 1;
    static final char LINK = 2;

    private static final class Piece {
        final StringBuilder html = new StringBuilder();
        /** The sign of a row of emphasis, with how many are left and what was paired around them. */
        char sign;
        int first;
        int left;
        boolean opens;
        boolean closes;
        String before = "";
        String after = "";
        /** Where the text of a bracket that may open begins, or -1. */
        int inside = -1;
        boolean isPicture;
        boolean isOff;

        String written() {
            return before + html + String.valueOf(sign == 0 ? ' ' : sign).repeat(left) + after;
        }
    }

    private final String text;
    private final PlainModel.Parsed labels;
    private List<Piece> pieces = new ArrayList<>();

    PlainRuns(String text, PlainModel.Parsed labels) {
        this.text = text;
        this.labels = labels;
    }

    static String escaped(String text) {
        return text.replace("&", "&a").replace("<", "&l");
    }

    private static boolean isSign(int index, String text) {
        return index >= 0 && index < text.length()
            && String.valueOf(text.charAt(index)).matches("[!-~&&[^a-zA-Z0-9]]");
    }

    private static boolean isGap(int index, String text) {
        return index < 0 || index >= text.length() || text.charAt(index) == ' ' || text.charAt(index) == '\n';
    }

    private void add(String html) {
        Piece piece = new Piece();
        piece.html.append(html);
        pieces.add(piece);
    }

    String html() {
        int at = 0;
        while (at < text.length()) {
            at = pass(at);
        }
        pair(pieces);
        return joined(pieces);
    }

    private static String joined(List<Piece> some) {
        StringBuilder out = new StringBuilder();
        for (Piece piece : some) {
            out.append(piece.written());
        }
        return out.toString();
    }

    private int pass(int at) {
        String rest = text.substring(at);
        if (rest.matches("(?s) *\n.*")) {
            int blanks = rest.indexOf('\n');
            add(blanks >= 2 ? "<b>" : "\n");
            return afterBlanks(at + blanks + 1);
        }
        if (rest.startsWith("\\\n")) {
            add("<b>");
            return afterBlanks(at + 2);
        }
        if (rest.startsWith("\\") && isSign(at + 1, text)) {
            add(escaped(rest.substring(1, 2)));
            return at + 2;
        }
        if (rest.startsWith("`")) {
            return code(at);
        }
        if (rest.startsWith("[") || rest.startsWith("![")) {
            add(rest.startsWith("!") ? "![" : "[");
            Piece piece = pieces.get(pieces.size() - 1);
            piece.isPicture = rest.startsWith("!");
            piece.inside = at + (piece.isPicture ? 2 : 1);
            return piece.inside;
        }
        if (rest.startsWith("]")) {
            return closing(at);
        }
        if (rest.startsWith("*") || rest.startsWith("_")) {
            return row(at);
        }
        add(escaped(rest.substring(0, 1)));
        return at + 1;
    }

    private int afterBlanks(int at) {
        int end = at;
        while (end < text.length() && text.charAt(end) == ' ') {
            end++;
        }
        return end;
    }

    private int endOfRow(int at) {
        int end = at;
        while (end < text.length() && text.charAt(end) == text.charAt(at)) {
            end++;
        }
        return end;
    }

    private int code(int at) {
        int from = endOfRow(at);
        for (int row = text.indexOf('`', from); row >= 0; row = text.indexOf('`', endOfRow(row))) {
            if (endOfRow(row) - row == from - at) {
                String inside = text.substring(from, row).replace('\n', ' ');
                if (inside.startsWith(" ") && inside.endsWith(" ") && !inside.trim().isEmpty()) {
                    inside = inside.substring(1, inside.length() - 1);
                }
                add("<k>" + escaped(inside) + "</k>");
                return endOfRow(row);
            }
        }
        add(text.substring(at, from));
        return from;
    }

    private int row(int at) {
        int end = endOfRow(at);
        add("");
        Piece piece = pieces.get(pieces.size() - 1);
        piece.sign = text.charAt(at);
        piece.first = end - at;
        piece.left = end - at;
        boolean signAhead = isSign(at - 1, text);
        boolean signBehind = isSign(end, text);
        boolean gapAhead = isGap(at - 1, text);
        boolean gapBehind = isGap(end, text);
        piece.opens = !gapBehind && !(signBehind && !signAhead && !gapAhead);
        piece.closes = !gapAhead && !(signAhead && !signBehind && !gapBehind);
        if (piece.sign == '_' && piece.opens && piece.closes) {
            piece.opens = signAhead;
            piece.closes = signBehind;
        }
        return end;
    }

    private int closing(int at) {
        int index = pieces.size() - 1;
        while (index >= 0 && pieces.get(index).inside < 0) {
            index--;
        }
        if (index < 0) {
            add("]");
            return at + 1;
        }
        Piece opener = pieces.get(index);
        String inside = text.substring(opener.inside, at);
        opener.inside = -1;
        if (opener.isOff) {
            add("]");
            return at + 1;
        }
        if (!opener.isPicture && inside.startsWith("^")
            && labels.notes.containsKey(PlainModel.label(inside.substring(1)))) {
            pieces = new ArrayList<>(pieces.subList(0, index));
            add(NOTE + PlainModel.label(inside.substring(1)) + NOTE);
            return at + 1;
        }
        String behind = text.substring(at + 1);
        String goal = null;
        int taken = 0;
        java.util.regex.Matcher match = java.util.regex.Pattern.compile("(?s)\\(([^ ()]*)\\).*").matcher(behind);
        if (match.matches()) {
            goal = match.group(1);
            taken = goal.length() + 2;
        }
        if (goal == null) {
            match = java.util.regex.Pattern.compile("(?s)\\[([^\\[\\]]*)\\].*").matcher(behind);
            if (match.matches()) {
                goal = goalOf(match.group(1));
                taken = match.group(1).length() + 2;
            }
        }
        if (goal == null) {
            goal = goalOf(inside);
            taken = behind.startsWith("[]") ? 2 : 0;
        }
        if (goal == null) {
            add("]");
            return at + 1;
        }
        List<Piece> between = new ArrayList<>(pieces.subList(index + 1, pieces.size()));
        pair(between);
        pieces = new ArrayList<>(pieces.subList(0, index));
        String letter = opener.isPicture ? "m" : "a";
        add(LINK + "<" + letter + " " + escaped(goal) + ">" + joined(between) + "</" + letter + ">");
        if (!opener.isPicture) {
            for (Piece piece : pieces) {
                piece.isOff |= piece.inside >= 0 && !piece.isPicture;
            }
        }
        return at + 1 + taken;
    }

    private String goalOf(String label) {
        return label.startsWith("^") ? null : labels.goals.get(PlainModel.label(label));
    }

    private static void pair(List<Piece> some) {
        for (int closer = 0; closer < some.size(); closer++) {
            while (pairOnce(some, closer)) {
                continue;
            }
        }
    }

    private static boolean pairOnce(List<Piece> some, int index) {
        Piece closer = some.get(index);
        if (!closer.closes || closer.left == 0) {
            return false;
        }
        for (int ahead = index - 1; ahead >= 0; ahead--) {
            Piece opener = some.get(ahead);
            if (opener.sign != closer.sign || !opener.opens || opener.left == 0) {
                continue;
            }
            boolean both = opener.closes || closer.opens;
            boolean three = (opener.first + closer.first) % 3 == 0;
            boolean bothThree = opener.first % 3 == 0 && closer.first % 3 == 0;
            if (both && three && !bothThree) {
                continue;
            }
            int length = Math.min(2, Math.min(opener.left, closer.left));
            opener.left -= length;
            closer.left -= length;
            opener.after = (length == 2 ? "<s>" : "<e>") + opener.after;
            closer.before = closer.before + (length == 2 ? "</s>" : "</e>");
            for (int between = ahead + 1; between < index; between++) {
                some.get(between).opens = false;
                some.get(between).closes = false;
            }
            return true;
        }
        return false;
    }
}
