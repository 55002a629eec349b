import java.util.ArrayList;
import java.util.HashMap;
import java.util.LinkedHashMap;
import java.util.List;
import java.util.Map;
import java.util.regex.Matcher;
import java.util.regex.Pattern;

/**
 * The document said a second time, with objects, texts and patterns and without a thought for speed:
 * the whole text is read at every question. ModelTest sets WeaveMark against it.
 */
final class PlainModel {

    static final class Block {
        char kind;
        Block around;
        List<Block> parts = new ArrayList<>();
        List<String> rows = new ArrayList<>();
        int begin;
        int end;
        int value;
        char sign;

        boolean isList() {
            return kind == 'u' || kind == 'o';
        }

        boolean isLoose() {
            for (int item = 0; item < parts.size(); item++) {
                if (hasGapBehind(parts, item) ) {
                    return true;
                }
                for (int part = 0; part < parts.get(item).parts.size(); part++) {
                    if (hasGapBehind(parts.get(item).parts, part)) {
                        return true;
                    }
                }
            }
            return false;
        }

        private static boolean hasGapBehind(List<Block> blocks, int index) {
            return index + 1 < blocks.size() && blocks.get(index + 1).begin - blocks.get(index).end > 1;
        }
    }

    /** A parsed text: its blocks and labels. */
    static final class Parsed {
        final List<Block> all = new ArrayList<>();
        final Block root = new Block();
        final Map<String, String> goals = new LinkedHashMap<>();
        final Map<String, String> notes = new LinkedHashMap<>();
        /** Found while all is written. */
        final List<String> used = new ArrayList<>();
        int links;
        String written = "";
        final List<String> writtenTops = new ArrayList<>();
    }

    final List<String> lines = new ArrayList<>();
    String buffer = "";
    int readAll;
    int readLast;
    int seen;
    String shown = "";

    // ---- edits

    void edit(int line, int shift, String with) {
        List<Integer> before = begins();
        if (shift < 0) {
            lines.remove(line);
        } else if (shift == 0) {
            lines.set(line, with);
        } else {
            lines.add(line, with);
        }
        List<Integer> behind = begins();
        int start = 0;
        for (int begin : before) {
            if (begin < line) {
                start = begin;
            }
        }
        int stop = lines.size();
        for (int begin : behind) {
            boolean isBehind = shift < 0 ? begin >= line : begin > line;
            if (isBehind && before.contains(begin - shift)) {
                stop = begin;
                break;
            }
        }
        readLast = stop - start;
        readAll += readLast;
        seen += lines.size();
    }

    List<Integer> begins() {
        List<Integer> found = new ArrayList<>();
        for (Block top : parse().root.parts) {
            found.add(top.begin);
        }
        return found;
    }

    // ---- reading

    private static final Pattern ITEM = Pattern.compile("( *)([-+*]|(\\d{1,4})\\.)(?:( +)(.*)|)");
    private static final Pattern HEADING = Pattern.compile("(#{1,6})(?: (.*))?");
    private static final Pattern DEFINITION = Pattern.compile("\\[(\\^?)([^\\[\\]]*)\\]:(.*)");

    private Parsed result;
    private List<Block> open;
    private Block leaf;

    Parsed parse() {
        result = new Parsed();
        open = new ArrayList<>();
        leaf = null;
        result.root.kind = 'R';
        result.root.begin = -1;
        open.add(result.root);
        for (int line = 0; line < lines.size(); line++) {
            readLine(line, lines.get(line));
        }
        close();
        write(result);
        return result;
    }

    private static boolean blank(String text) {
        return text.trim().isEmpty();
    }

    private static String stripLeft(String text) {
        return text.replaceFirst("^ +", "");
    }

    private static String spaces(int number) {
        return " ".repeat(number);
    }

    private void touch(Block block, int line) {
        for (Block each = block; each != null; each = each.around) {
            each.end = line;
        }
    }

    private Block put(char kind, Block around, int line) {
        Block block = new Block();
        block.kind = kind;
        block.around = around;
        block.begin = line;
        around.parts.add(block);
        result.all.add(block);
        touch(block, line);
        return block;
    }

    private void close() {
        if (leaf != null && leaf.kind == 'p') {
            while (!leaf.rows.isEmpty() && define(leaf.rows.get(0))) {
                leaf.rows.remove(0);
            }
            if (leaf.rows.isEmpty()) {
                leaf.kind = '-';
            }
        }
        leaf = null;
    }

    static String label(String raw) {
        return raw.replace('\n', ' ').trim().toLowerCase();
    }

    private boolean define(String row) {
        Matcher match = DEFINITION.matcher(row);
        if (!match.matches() || label(match.group(2)).isEmpty()) {
            return false;
        }
        String goal = match.group(3).trim();
        if (goal.isEmpty()) {
            return false;
        }
        if (match.group(1).equals("^")) {
            result.notes.putIfAbsent(label(match.group(2)), goal);
            return true;
        }
        if (goal.contains(" ")) {
            return false;
        }
        result.goals.putIfAbsent(label(match.group(2)), goal);
        return true;
    }

    private void cutOpen(int number) {
        while (open.size() > number) {
            open.remove(open.size() - 1);
        }
    }

    private void readLine(int line, String whole) {
        String rest = whole;
        int met = 1;
        for (; met < open.size(); met++) {
            Block block = open.get(met);
            if (block.kind == 'q') {
                if (!rest.trim().startsWith(">")) {
                    break;
                }
                rest = stripLeft(rest).substring(1);
                if (rest.startsWith(" ")) {
                    rest = rest.substring(1);
                }
            } else if (rest.startsWith(spaces(block.value))) {
                rest = rest.substring(block.value);
            } else if (!(blank(rest) && !block.parts.isEmpty())) {
                break;
            }
        }
        boolean allMet = met == open.size();
        if (allMet && leaf != null && leaf.kind == 'c') {
            String row = rest.trim();
            touch(leaf, line);
            if (row.length() >= leaf.value && row.matches("`+")) {
                leaf = null;
            } else {
                leaf.rows.add(rest);
            }
            return;
        }
        boolean begun = false;
        while (true) {
            String told = rest.trim();
            boolean inParagraph = allMet && !begun && leaf != null && leaf.kind == 'p';
            if (inParagraph && (told.matches("=+") || told.matches("-+"))) {
                leaf.kind = 'h';
                leaf.value = told.charAt(0) == '=' ? 1 : 2;
                touch(leaf, line);
                leaf = null;
                return;
            }
            if (told.startsWith(">")) {
                begin(met);
                open.add(put('q', open.get(met - 1), line));
                rest = stripLeft(rest).substring(1);
                if (rest.startsWith(" ")) {
                    rest = rest.substring(1);
                }
                met++;
                begun = true;
                continue;
            }
            if (told.matches("(- *){3,}|(\\* *){3,}|(_ *){3,}")) {
                begin(met);
                put('r', open.get(met - 1), line);
                return;
            }
            Matcher item = ITEM.matcher(rest);
            if (item.matches() && mayBegin(item, inParagraph)) {
                begin(met);
                rest = beginItem(item, rest, met, line);
                met++;
                begun = true;
                continue;
            }
            Matcher heading = HEADING.matcher(told);
            if (heading.matches()) {
                begin(met);
                Block block = put('h', open.get(met - 1), line);
                block.value = heading.group(1).length();
                String text = heading.group(2) == null ? "" : heading.group(2).trim();
                block.rows.add(text.replaceFirst("(^|(?<= ))#+$", "").trim());
                return;
            }
            if (told.matches("`{3,}[^`]*")) {
                begin(met);
                leaf = put('c', open.get(met - 1), line);
                leaf.value = told.length() - told.replaceFirst("^`+", "").length();
                return;
            }
            if (inParagraph && leaf.rows.size() == 1 && leaf.rows.get(0).contains("|") && told.contains("|")) {
                List<String> cells = cells(told);
                boolean fits = cells.size() == cells(leaf.rows.get(0)).size();
                for (String cell : cells) {
                    fits &= cell.matches(":?-+:?");
                }
                if (fits) {
                    leaf.kind = 't';
                    leaf.value = cells.size();
                    touch(leaf, line);
                    return;
                }
            }
            break;
        }
        if (blank(rest)) {
            if (!begun) {
                close();
                cutOpen(met);
            }
            return;
        }
        if (!begun && !allMet && leaf != null && leaf.kind == 'p') {
            leaf.rows.add(rest.trim());
            touch(leaf, line);
            return;
        }
        if (!begun && !allMet) {
            close();
            cutOpen(met);
        }
        if (leaf == null) {
            leaf = put('p', open.get(met - 1), line);
            leaf.rows.add(rest.trim());
        } else {
            leaf.rows.add(stripLeft(rest));
        }
        touch(leaf, line);
    }

    private void begin(int met) {
        close();
        cutOpen(met);
    }

    private static boolean mayBegin(Matcher item, boolean inParagraph) {
        boolean hasSomething = item.group(5) != null && !item.group(5).isEmpty();
        boolean isFirst = item.group(3) == null || Integer.parseInt(item.group(3)) == 1;
        return !inParagraph || hasSomething && isFirst;
    }

    private String beginItem(Matcher item, String rest, int met, int line) {
        char sign = item.group(3) == null ? item.group(2).charAt(0) : '.';
        Block around = open.get(met - 1);
        Block list = around.parts.isEmpty() ? null : around.parts.get(around.parts.size() - 1);
        if (list == null || !list.isList() || list.sign != sign) {
            list = put(sign == '.' ? 'o' : 'u', around, line);
            list.sign = sign;
            list.value = sign == '.' ? Integer.parseInt(item.group(3)) : 0;
        }
        Block block = put('i', list, line);
        boolean hasSomething = item.group(5) != null && !item.group(5).isEmpty();
        int behind = hasSomething && item.group(4).length() <= 4 ? item.group(4).length() : 1;
        block.value = item.group(1).length() + item.group(2).length() + behind;
        open.add(block);
        return block.value >= rest.length() ? "" : rest.substring(block.value);
    }

    static List<String> cells(String row) {
        String left = row.trim().replaceFirst("^\\|", "").replaceFirst("(?<!\\\\)\\|$", "");
        if (row.trim().equals("|")) {
            left = "";
        }
        List<String> found = new ArrayList<>();
        for (String cell : left.split("(?<!\\\\)\\|", -1)) {
            found.add(cell.trim());
        }
        return found;
    }

    // ---- writing

    static int depthOf(Block block) {
        int depth = 0;
        for (Block each = block; each != null; each = each.around) {
            if (each.kind == 'q' || each.kind == 'i') {
                depth++;
            }
        }
        return depth;
    }

    private void write(Parsed parsed) {
        StringBuilder out = new StringBuilder();
        for (Block top : parsed.root.parts) {
            String written = number(block(top, parsed), parsed);
            parsed.writtenTops.add(written);
            out.append(written);
        }
        for (int number = 1; number <= parsed.used.size(); number++) {
            String note = parsed.notes.get(parsed.used.get(number - 1));
            out.append("<f").append(number).append('>');
            out.append(number(new PlainRuns(note, parsed).html(), parsed)).append("</f>");
        }
        parsed.written = out.toString();
    }

    /** Puts numbers in the places of used notes, and counts links, in the order of writing. */
    private static String number(String html, Parsed parsed) {
        StringBuilder out = new StringBuilder();
        int at = 0;
        while (at < html.length()) {
            char sign = html.charAt(at);
            if (sign == PlainRuns.NOTE) {
                int end = html.indexOf(PlainRuns.NOTE, at + 1);
                String label = html.substring(at + 1, end);
                if (!parsed.used.contains(label)) {
                    parsed.used.add(label);
                }
                out.append("<n").append(parsed.used.indexOf(label) + 1).append('>');
                at = end + 1;
                continue;
            }
            if (sign == PlainRuns.LINK) {
                parsed.links++;
            } else {
                out.append(sign);
            }
            at++;
        }
        return out.toString();
    }

    private String block(Block block, Parsed parsed) {
        StringBuilder inside = new StringBuilder();
        for (Block part : block.parts) {
            inside.append(block(part, parsed));
        }
        switch (block.kind) {
            case '-':
                return "";
            case 'r':
                return "<r>";
            case 'p':
                String runs = new PlainRuns(String.join("\n", block.rows), parsed).html();
                boolean isBare = block.around.kind == 'i' && !block.around.around.isLoose();
                return isBare ? runs : "<p>" + runs + "</p>";
            case 'h':
                String title = new PlainRuns(String.join("\n", block.rows), parsed).html();
                return "<h" + block.value + ">" + title + "</h" + block.value + ">";
            case 'c':
                for (String row : block.rows) {
                    inside.append(PlainRuns.escaped(row)).append('\n');
                }
                return "<c>" + inside + "</c>";
            case 't':
                for (String row : block.rows) {
                    List<String> cells = cells(row);
                    inside.append("<w>");
                    for (int cell = 0; cell < block.value; cell++) {
                        String text = cell < cells.size() ? cells.get(cell) : "";
                        inside.append("<d>").append(new PlainRuns(text, parsed).html()).append("</d>");
                    }
                    inside.append("</w>");
                }
                return "<t>" + inside + "</t>";
            case 'o':
                return "<o" + block.value + ">" + inside + "</o>";
            default:
                return "<" + block.kind + ">" + inside + "</" + block.kind + ">";
        }
    }

    // ---- questions

    int countKind(char kind) {
        int found = 0;
        for (Block block : parse().all) {
            found += block.kind == kind ? 1 : 0;
        }
        return found;
    }

    int deepest() {
        int most = 0;
        for (Block block : parse().all) {
            most = Math.max(most, depthOf(block));
        }
        return most;
    }

    int countLoose() {
        int found = 0;
        for (Block block : parse().all) {
            found += block.isList() && block.isLoose() ? 1 : 0;
        }
        return found;
    }

    List<Integer> levels() {
        List<Integer> found = new ArrayList<>();
        for (Block block : parse().all) {
            if (block.kind == 'h') {
                found.add(block.value);
            }
        }
        return found;
    }
}
