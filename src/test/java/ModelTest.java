import java.util.List;
import java.util.Random;

/** Sets WeaveMark against PlainModel on texts made from seeds: every answer behind every edit. */
public final class ModelTest {

    private static final String[] AHEAD = {
        "> ", ">", "- ", "+ ", "* ", "-", "1. ", "2. ", "7. ", "12. ", "1.", "  ", "   ", "    ", " ", "     ", "-     ",
    };
    private static final String[] WHOLE = {
        "# h", "## h ##", "#", "### *a* #", "####### no", "---", "-", "===", "=", "***", "_ _ _", "```", "````", "``` x", "```a`",
        "|-|-|", "-|-", ":-:|-", "|-|", "-|", "a|b", "|a|b|", "a\\|b|c", "|", "||", "a|b|c  ", "-|-|-",
        "[a]: g", "[b]:h", "[A]: z", "[ a b ]: q", "[^n]: t *x*", "[^m]: u [^n] [a]", "[^n]: v", "[^m]: [^o]", "[^o]: `k`",
        "[a]: g ", "[a]: g h", "[]: g", "[^]: g", "[^a]:", "[a]:", "", "", "", " ", "   ", "a", "b c  ", "a\\", "a ", "1. a", "01. b", "2. b",
    };
    private static final String[] RUNS = {
        "a", "b", "B", " ", "  ", "*", "**", "***", "_", "__", "[", "]", "![", "](g)", "](", ")", "(", "[a]", "[a b]", "[^n]", "[^m]",
        "[^o]", "][a]", "][]", "][z]", "![a]", "`", "``", "```", "\\", "\\*", "\\[", "<", "&", ">", "|", ".", "1", "#", "^", "!", "-", ":",
        "*a*", "**a**", "_a_", "[x](y)", "[a](b c)", "*a [b](c) d*", "`a`", "` a `",
    };
    private static final String SIGNS = " >-*_`[]()!^#|:=\\ab1.+<&";

    private final Tally tally = new Tally();
    private final Random random;
    private String told = "";

    private ModelTest(long seed) {
        random = new Random(seed);
    }

    public static void main(String[] args) {
        int runs = args.length > 1 ? Integer.parseInt(args[0]) : 6000;
        long seed = args.length > 1 ? Long.parseLong(args[1]) : 20261119L;
        ModelTest test = new ModelTest(seed);
        for (int run = 0; run < runs && test.tally.failed == 0; run++) {
            test.run(run);
        }
        test.tally.close("ModelTest");
    }

    private String pick(String[] from) {
        return from[random.nextInt(from.length)];
    }

    private String line(int way) {
        StringBuilder line = new StringBuilder();
        if (way == 0) {
            for (int left = random.nextInt(14); left > 0; left--) {
                line.append(SIGNS.charAt(random.nextInt(SIGNS.length())));
            }
        } else {
            for (int left = random.nextInt(random.nextInt(5) + 1); left > 0; left--) {
                line.append(pick(AHEAD));
            }
            if (random.nextInt(2) == 0 && way != 2) {
                line.append(pick(WHOLE));
            } else {
                for (int left = random.nextInt(way == 2 ? 16 : 7); left > 0; left--) {
                    line.append(pick(RUNS));
                }
            }
        }
        return line.length() > 40 ? line.substring(0, 40) : line.toString();
    }

    private void run(int run) {
        WeaveMark mark = new WeaveMark();
        PlainModel model = new PlainModel();
        told = "run " + run + ":";
        int way = random.nextInt(6);
        int edits = 1 + random.nextInt(16);
        for (int edit = 0; edit < edits && tally.failed == 0; edit++) {
            edit(mark, model, way > 2 ? 1 : way);
            check(mark, model);
        }
    }

    private void edit(WeaveMark mark, PlainModel model, int way) {
        int size = model.lines.size();
        int choice = size == 0 ? 0 : random.nextInt(10);
        if (choice >= 9) {
            int line = random.nextInt(size);
            told += "\n  removeLine(" + line + ")";
            model.edit(line, -1, "");
            tally.same(told, mark.removeLine(line), model.lines.size());
            return;
        }
        String with = line(way);
        for (int index = 0; index < with.length(); index++) {
            tally.same(told + " type", mark.type(with.charAt(index)), index + 1);
        }
        if (choice >= 7) {
            int line = random.nextInt(size);
            told += "\n  setLine(" + line + ") '" + with + "'";
            int before = model.lines.get(line).length();
            model.edit(line, 0, with);
            tally.same(told, mark.setLine(line), before);
        } else if (choice >= 5) {
            int line = random.nextInt(size + 1);
            told += "\n  insertLine(" + line + ") '" + with + "'";
            model.edit(line, 1, with);
            tally.same(told, mark.insertLine(line), model.lines.size());
        } else {
            told += "\n  addLine() '" + with + "'";
            model.edit(size, 1, with);
            tally.same(told, mark.addLine(), model.lines.size());
        }
    }

    private void check(WeaveMark mark, PlainModel model) {
        PlainModel.Parsed parsed = model.parse();
        List<PlainModel.Block> tops = parsed.root.parts;
        tally.same(told + " lines", mark.lines(), model.lines.size());
        tally.same(told + " readLast", mark.readLast(), model.readLast);
        tally.same(told + " read", mark.read(), model.readAll);
        tally.same(told + " tops", mark.tops(), tops.size());
        for (int top = 0; top < tops.size() && top < mark.tops(); top++) {
            tally.same(told + " beginOf " + top, mark.beginOf(top), tops.get(top).begin);
            tally.same(told + " kindOf " + top, mark.kindOf(top), tops.get(top).kind);
        }
        for (char kind : "phquorcti".toCharArray()) {
            tally.same(told + " count " + kind, mark.count(kind), model.countKind(kind));
        }
        tally.same(told + " depth", mark.depth(), model.deepest());
        tally.same(told + " looseLists", mark.looseLists(), model.countLoose());
        List<Integer> levels = model.levels();
        tally.same(told + " headings", mark.headings(), levels.size());
        for (int heading = 0; heading < levels.size() && heading < mark.headings(); heading++) {
            tally.same(told + " levelOf " + heading, mark.levelOf(heading), levels.get(heading));
        }
        tally.same(told + " definitions", mark.definitions(), parsed.goals.size());
        tally.same(told + " notes", mark.notes(), parsed.notes.size());
        tally.same(told + " usedNotes", mark.usedNotes(), parsed.used.size());
        tally.same(told + " links", mark.links(), parsed.links);
        checkWriting(mark, model, parsed);
    }

    private void checkWriting(WeaveMark mark, PlainModel model, PlainModel.Parsed parsed) {
        shown(mark, "write", mark.write(), parsed.written);
        for (int top = 0; top < parsed.writtenTops.size() && top < mark.tops(); top++) {
            shown(mark, "writeTop " + top, mark.writeTop(top), parsed.writtenTops.get(top));
        }
        shown(mark, "writeAnew", mark.writeAnew(), parsed.written);
        tally.same(told + " isSound", mark.isSound(), true);
        shown(mark, "what was written last", parsed.written.length(), parsed.written);
        if (!model.lines.isEmpty()) {
            int sum = String.join("", model.lines).length();
            tally.same(told + " meanLength", mark.meanLength(), (double) sum / model.lines.size());
        }
        float share = (float) (model.seen - model.readAll) / (float) model.seen;
        tally.same(told + " keptShare", mark.keptShare(), share);
    }

    private void shown(WeaveMark mark, String what, int length, String due) {
        StringBuilder got = new StringBuilder();
        for (int index = 0; index < length; index++) {
            got.append(mark.charAt(index));
        }
        tally.same(told + "\n " + what, got.toString(), due);
    }
}
