import java.util.List;
import java.util.Random;

/** Sets WeaveMark against PlainModel on texts made from seeds: every answer behind every edit. */
public final class ModelTest {

    private static final String[] AHEAD = {
        "> ", ">", "- ", "+ ", "* ", "-", "1. ", "2. ", "7. ", "12. ", "1.", "  ", "   ", "    ", " ", "     ", "-     ",
    };
    private static final String[] WHOLE = {
        "# h", "## h ##", "#", "### *a* #", "####### no", "---", "-", "===", "=", "***", "_ _ _", "```", "````", "``` x", "```a`",
        "|-|-|", "-|-", ":-:|-", "|-|", "-|", "a|b", "|a|b|", "a\\|b|c", "|", "||", "a|b|c  ", "-|-|-",
        "[a]: g", "[b]:h", "[A]: z", "[ a b ]: q", "[^n]: t *x*", "[^m]: u [^n] [a]", "[^n]: v", "[^m]: [^o]", "[^o]: `k`",
        "[a]: g ", "[a]: g h", "[]: g", "[^]: g", "[^a]:", "[a]:", "", "", "", " ", "   ", "a", "b c  ", "a\\", "a ", "1. a", "01. b", "2. b",
    };
    private static final String[] RUNS = {
        "a", "b", "B", " ", "  ", "*", "**", "***", "_", "__", "[", "]", "![", "](g)", "](", ")", "(", "[a]", "[a b]", "[^n]", "[^m]",
        "[^o]", "][a]", "][]", "][z]", "![a]", "`", "``", "```", "\\", "\\*", "\\[", "<", "&", ">", "|", ".", "1", "#", "^", "!", "-", ":",
        "*a*", "**a**", "_a_", "[x](y)", "[a](b c)", "*a [b](c) d*", "`a`", "` a `",
    };
    private static final String[] DASHES = {"-", ":-:", "--", " - ", ":-", "- :"};
    private static final String[] CELLS = {
        "a", " b ", "\\|", "\\\\|", "\\", "*x*", "`|`", "[a]", "[^n]", "  ", "-", "", "_",
    };
    private static final String[] NAMES = {"a", "A", " a ", "b c", "B C", "^n", "^N ", "^m", "^o", "^^n", " ^n", "^", " ", "x]"};
    private static final String[] GOALS = {
        "g", " <&>", "  g  ", "g h", "", "(u)", " *k* [^m]", "[^n] [a]", " t [^o][b c]", "`k` ![a]()",
    };
    private static final String[] LABELS = {
        "[a]", "[b C]", "[^n]", "[^ N ]", "[^m]", "[^o]", "[^^n]", "[ ^n]", "][a]", "][]", "![a]", "![", "](u)", "]()", "[", "]", " ",
        "*", "x", "\\", "`a`",
    };
    private static final String[] ROWS = {
        "*", "**", "***", "****", "_", "__", "___", "a", "b", ".", "\"", " ", "\\", "[", "](u)", "![", "`",
    };
    private static final String SIGNS = " >-*_`[]()!^#|:=\\ab1.+<&";
    /** Lines of all sorts, and lines of one sort, which so meet more often than by chance. */
    private static final int OF_SIGNS = 0;
    private static final int MIXED = 1;
    private static final int OF_RUNS = 2;
    private static final int OF_CELLS = 3;
    private static final int OF_LABELS = 4;
    private static final int OF_ROWS = 5;
    private static final int WAYS = 9;
    private static final int MOST_LINES = 24;

    private final Tally tally = new Tally();
    private final Random random;
    private String told = "";

    private ModelTest(long seed) {
        random = new Random(seed);
    }

    public static void main(String[] args) {
        int runs = args.length > 1 ? Integer.parseInt(args[0]) : 6000;
        long seed = args.length > 1 ? Long.parseLong(args[1]) : 20261119L;
        ModelTest test = new ModelTest(seed);
        for (int run = 0; run < runs && test.tally.failed == 0; run++) {
            test.run(run);
        }
        test.tally.close("ModelTest");
    }

    private String pick(String[] from) {
        return from[random.nextInt(from.length)];
    }

    private void put(StringBuilder line, String[] from, int below) {
        for (int left = random.nextInt(below); left > 0; left--) {
            line.append(pick(from));
        }
    }

    /** A row of a table, or the line below its head. */
    private void putCells(StringBuilder line) {
        String[] from = random.nextInt(3) == 0 ? DASHES : CELLS;
        put(line, AHEAD, random.nextInt(2) + 1);
        line.append(random.nextInt(3) == 0 ? "|" : "");
        line.append(pick(from));
        for (int left = random.nextInt(3); left > 0; left--) {
            line.append('|').append(pick(from));
        }
        line.append(random.nextInt(3) == 0 ? "|" : "");
    }

    /** A definition, or a line that uses some. */
    private void putLabels(StringBuilder line) {
        put(line, AHEAD, random.nextInt(2) + 1);
        if (random.nextInt(2) == 0) {
            line.append('[').append(pick(NAMES)).append("]:").append(pick(GOALS));
        } else {
            put(line, LABELS, 7);
        }
    }

    private String line(int way) {
        StringBuilder line = new StringBuilder();
        switch (way) {
            case OF_SIGNS:
                for (int left = random.nextInt(14); left > 0; left--) {
                    line.append(SIGNS.charAt(random.nextInt(SIGNS.length())));
                }
                break;
            case OF_CELLS:
                putCells(line);
                break;
            case OF_LABELS:
                putLabels(line);
                break;
            case OF_ROWS:
                put(line, ROWS, 24);
                break;
            default:
                put(line, AHEAD, random.nextInt(5) + 1);
                if (random.nextInt(2) == 0 && way != OF_RUNS) {
                    line.append(pick(WHOLE));
                } else {
                    put(line, RUNS, way == OF_RUNS ? 16 : 7);
                }
                break;
        }
        return line.length() > 40 ? line.substring(0, 40) : line.toString();
    }

    /** A new line, or one that stands in the text already. */
    private String line(PlainModel model, int way) {
        if (!model.lines.isEmpty() && random.nextInt(8) == 0) {
            return model.lines.get(random.nextInt(model.lines.size()));
        }
        return line(way);
    }

    private void run(int run) {
        WeaveMark mark = new WeaveMark();
        PlainModel model = new PlainModel();
        told = "run " + run + ":";
        int chosen = random.nextInt(WAYS);
        int way = chosen > OF_ROWS ? MIXED : chosen;
        // some texts are long ahead of the first question, up to as many lines as there may be
        int ahead = run % 20 == 0 ? 10 + random.nextInt(20) : 0;
        for (int edit = 0; edit < ahead && tally.failed == 0; edit++) {
            edit(mark, model, way);
        }
        int edits = 1 + random.nextInt(16);
        for (int edit = 0; edit < edits && tally.failed == 0; edit++) {
            edit(mark, model, way);
            check(mark, model);
        }
    }

    /** Which edit comes next: the more lines there are, the fewer are added. */
    private int choose(int size) {
        if (size == 0) {
            return 0;
        }
        return size < MOST_LINES ? random.nextInt(10) : 7 + random.nextInt(3);
    }

    private void edit(WeaveMark mark, PlainModel model, int way) {
        int size = model.lines.size();
        int choice = choose(size);
        if (choice >= 9) {
            int line = random.nextInt(size);
            told += "\n  removeLine(" + line + ")";
            model.edit(line, -1, "");
            tally.same(told, mark.removeLine(line), model.lines.size());
            return;
        }
        String with = line(model, way);
        for (int index = 0; index < with.length(); index++) {
            tally.same(told + " type", mark.type(with.charAt(index)), index + 1);
        }
        if (choice >= 7) {
            int line = random.nextInt(size);
            told += "\n  setLine(" + line + ") '" + with + "'";
            int before = model.lines.get(line).length();
            model.edit(line, 0, with);
            tally.same(told, mark.setLine(line), before);
        } else if (choice >= 5) {
            int line = random.nextInt(size + 1);
            told += "\n  insertLine(" + line + ") '" + with + "'";
            model.edit(line, 1, with);
            tally.same(told, mark.insertLine(line), model.lines.size());
        } else {
            told += "\n  addLine() '" + with + "'";
            model.edit(size, 1, with);
            tally.same(told, mark.addLine(), model.lines.size());
        }
    }

    private void check(WeaveMark mark, PlainModel model) {
        PlainModel.Parsed parsed = model.parse();
        List<PlainModel.Block> tops = parsed.root.parts;
        tally.same(told + " lines", mark.lines(), model.lines.size());
        tally.same(told + " readLast", mark.readLast(), model.readLast);
        tally.same(told + " read", mark.read(), model.readAll);
        tally.same(told + " tops", mark.tops(), tops.size());
        for (int top = 0; top < tops.size() && top < mark.tops(); top++) {
            tally.same(told + " beginOf " + top, mark.beginOf(top), tops.get(top).begin);
            tally.same(told + " kindOf " + top, mark.kindOf(top), tops.get(top).kind);
        }
        for (char kind : "phquorcti".toCharArray()) {
            tally.same(told + " count " + kind, mark.count(kind), model.countKind(kind));
        }
        tally.same(told + " depth", mark.depth(), model.deepest());
        tally.same(told + " looseLists", mark.looseLists(), model.countLoose());
        List<Integer> levels = model.levels();
        tally.same(told + " headings", mark.headings(), levels.size());
        for (int heading = 0; heading < levels.size() && heading < mark.headings(); heading++) {
            tally.same(told + " levelOf " + heading, mark.levelOf(heading), levels.get(heading));
        }
        tally.same(told + " definitions", mark.definitions(), parsed.goals.size());
        tally.same(told + " notes", mark.notes(), parsed.notes.size());
        tally.same(told + " usedNotes", mark.usedNotes(), parsed.used.size());
        tally.same(told + " links", mark.links(), parsed.links);
        checkWriting(mark, model, parsed);
    }

    private void checkWriting(WeaveMark mark, PlainModel model, PlainModel.Parsed parsed) {
        shown(mark, "write", mark.write(), parsed.written);
        for (int top = 0; top < parsed.writtenTops.size() && top < mark.tops(); top++) {
            shown(mark, "writeTop " + top, mark.writeTop(top), parsed.writtenTops.get(top));
        }
        shown(mark, "writeAnew", mark.writeAnew(), parsed.written);
        tally.same(told + " isSound", mark.isSound(), true);
        shown(mark, "what was written last", parsed.written.length(), parsed.written);
        if (!model.lines.isEmpty()) {
            int sum = String.join("", model.lines).length();
            tally.same(told + " meanLength", mark.meanLength(), (double) sum / model.lines.size());
        }
        float share = (float) (model.seen - model.readAll) / (float) model.seen;
        tally.same(told + " keptShare", mark.keptShare(), share);
    }

    private void shown(WeaveMark mark, String what, int length, String due) {
        StringBuilder got = new StringBuilder();
        for (int index = 0; index < length; index++) {
            got.append(mark.charAt(index));
        }
        tally.same(told + "\n " + what, got.toString(), due);
    }
}
