/** The promises one by one, with answers worked out by hand from the document. */
public final class PromiseTest extends Checks {

    public static void main(String[] args) {
        PromiseTest test = new PromiseTest();
        test.newObject();
        test.type();
        test.addLine();
        test.insertLine();
        test.setLine();
        test.removeLine();
        test.lines();
        test.readAndReadLast();
        test.topsAndBegins();
        test.kinds();
        test.count();
        test.depth();
        test.looseLists();
        test.headings();
        test.definitionsAndNotes();
        test.usedNotes();
        test.writeBlocks();
        test.writeBlanksBehindLines();
        test.writeCells();
        test.writeRuns();
        test.writeBrackets();
        test.writeEmphasis();
        test.writeAllSigns();
        test.writeTop();
        test.writeAnew();
        test.charAt();
        test.links();
        test.keptShare();
        test.meanLength();
        test.isSound();
        test.close("PromiseTest");
    }

    // ---- lines

    private void newObject() {
        promise(1);
        WeaveMark mark = new WeaveMark();
        same("lines", mark.lines(), 0);
        same("tops", mark.tops(), 0);
        same("depth", mark.depth(), 0);
        same("read", mark.read(), 0);
        same("write", mark.write(), 0);
        same("writeAnew", mark.writeAnew(), 0);
        same("isSound", mark.isSound(), true);
        type(mark, "a");
        same("another is not touched", new WeaveMark().type('b'), 1);
    }

    private void type() {
        promise(2);
        WeaveMark mark = new WeaveMark();
        throwing("below 32", IllegalArgumentException.class, () -> mark.type((char) 31));
        throwing("above 126", IllegalArgumentException.class, () -> mark.type((char) 127));
        throwing("0", IllegalArgumentException.class, () -> mark.type((char) 0));
        throwing("65535", IllegalArgumentException.class, () -> mark.type((char) 65535));
        same("32", mark.type(' '), 1);
        same("126", mark.type('~'), 2);
        for (int number = 3; number <= 40; number++) {
            same("one more", mark.type('a'), number);
        }
        throwing("the 41st", IllegalStateException.class, () -> mark.type('b'));
        throwing("the first exception goes first", IllegalArgumentException.class, () -> mark.type((char) 31));
        mark.addLine();
        same("what threw put nothing in", written(mark), "<p>~" + "a".repeat(38) + "</p>");
        same("the buffer is empty then", mark.type('a'), 1);
    }

    private void addLine() {
        promise(3);
        WeaveMark mark = new WeaveMark();
        for (int line = 1; line <= 23; line++) {
            same("one more", mark.addLine(), line);
        }
        type(mark, "last");
        same("the 24th", mark.addLine(), 24);
        type(mark, "x");
        int read = mark.read();
        throwing("the 25th", IllegalStateException.class, mark::addLine);
        same("lines stay", mark.lines(), 24);
        same("read stays", mark.read(), read);
        same("the buffer stays", mark.type('y'), 2);
        same("it is the last line", written(mark), "<p>last</p>");
    }

    private void insertLine() {
        promise(4);
        WeaveMark mark = new WeaveMark();
        type(mark, "b");
        throwing("below 0", IndexOutOfBoundsException.class, () -> mark.insertLine(-1));
        throwing("above the number", IndexOutOfBoundsException.class, () -> mark.insertLine(1));
        throwing("far", IndexOutOfBoundsException.class, () -> mark.insertLine(Integer.MIN_VALUE));
        same("lines stay", mark.lines(), 0);
        same("into nothing", mark.insertLine(0), 1);
        same("the buffer is empty then", mark.type('a'), 1);
        same("ahead", mark.insertLine(0), 2);
        type(mark, "c");
        same("behind all", mark.insertLine(2), 3);
        type(mark, "x");
        same("between", mark.insertLine(1), 4);
        same("in order", written(mark), "<p>a\nx\nb\nc</p>");
        WeaveMark full = full();
        throwing("full", IllegalStateException.class, () -> full.insertLine(24));
        throwing("the first exception goes first", IndexOutOfBoundsException.class, () -> full.insertLine(25));
        same("lines stay", full.lines(), 24);
    }

    private void setLine() {
        promise(5);
        WeaveMark mark = text("abc", "de");
        type(mark, "longer");
        throwing("below 0", IndexOutOfBoundsException.class, () -> mark.setLine(-1));
        throwing("no such line", IndexOutOfBoundsException.class, () -> mark.setLine(2));
        throwing("far", IndexOutOfBoundsException.class, () -> mark.setLine(Integer.MAX_VALUE));
        same("nothing changed", written(mark), "<p>abc\nde</p>");
        same("the length before", mark.setLine(0), 3);
        same("replaced", written(mark), "<p>longer\nde</p>");
        same("by nothing, as the buffer is empty", mark.setLine(0), 6);
        same("the length of nothing", mark.setLine(0), 0);
        same("replaced by nothing", written(mark), "<p>de</p>");
        throwing("in no text", IndexOutOfBoundsException.class, () -> new WeaveMark().setLine(0));
    }

    private void removeLine() {
        promise(6);
        WeaveMark mark = text("a", "b", "c");
        type(mark, "z");
        throwing("below 0", IndexOutOfBoundsException.class, () -> mark.removeLine(-1));
        throwing("no such line", IndexOutOfBoundsException.class, () -> mark.removeLine(3));
        same("lines stay", mark.lines(), 3);
        same("the middle", mark.removeLine(1), 2);
        same("gone", written(mark), "<p>a\nc</p>");
        same("the last", mark.removeLine(1), 1);
        same("the only", mark.removeLine(0), 0);
        same("nothing is left", mark.write(), 0);
        same("the buffer stays", mark.type('y'), 2);
        throwing("in no text", IndexOutOfBoundsException.class, () -> mark.removeLine(0));
    }

    private void lines() {
        promise(7);
        WeaveMark mark = text("a", "", "b");
        same("blank lines count", mark.lines(), 3);
        mark.removeLine(1);
        same("one less", mark.lines(), 2);
        type(mark, "x");
        same("the buffer is no line", mark.lines(), 2);
        mark.setLine(0);
        same("a change counts none", mark.lines(), 2);
    }

    private void reads(WeaveMark mark, int last, int all) {
        promise(9);
        same("readLast", mark.readLast(), last);
        promise(8);
        same("read", mark.read(), all);
    }

    private void readAndReadLast() {
        WeaveMark mark = new WeaveMark();
        reads(mark, 0, 0);
        add(mark, "# a");
        reads(mark, 1, 1);
        add(mark, "# b");
        reads(mark, 2, 3);
        add(mark, "# c");
        reads(mark, 2, 5);
        add(mark, "# d");
        reads(mark, 2, 7);
        type(mark, "# x");
        mark.setLine(1);
        reads(mark, 2, 9);
        type(mark, "# y");
        mark.setLine(0);
        reads(mark, 1, 10);
        type(mark, "# z");
        mark.insertLine(0);
        reads(mark, 1, 11);
        mark.insertLine(2);
        reads(mark, 2, 13);
        mark.removeLine(0);
        reads(mark, 0, 13);
        mark.removeLine(1);
        reads(mark, 1, 14);
        same("the rest was kept", written(mark), "<h1>y</h1><h1>x</h1><h1>c</h1><h1>d</h1>");
        // the fence takes all behind it, up to the end
        type(mark, "```");
        mark.setLine(1);
        reads(mark, 4, 18);
        // and gives it back: these blocks begin where none began before
        mark.setLine(1);
        reads(mark, 4, 22);
        mark.write();
        mark.writeAnew();
        mark.isSound();
        reads(mark, 4, 22);
        // a paragraph that is gone is a top block all the same
        WeaveMark gone = text("# a", "[a]: g", "# b", "# c");
        type(gone, "# d");
        gone.setLine(2);
        reads(gone, 2, 9);
        // blanks ahead of the first top block are read again from the first line of the text
        WeaveMark blanks = text("", "", "a");
        blanks.setLine(1);
        reads(blanks, 2, 8);
        // a top block that begins there only now is no end
        WeaveMark list = text("- a", "  b", "# c");
        type(list, "# x");
        list.setLine(0);
        reads(list, 2, 8);
        same("the line below is a paragraph now", written(list), "<h1>x</h1><p>b</p><h1>c</h1>");
    }

    // ---- blocks

    private void topsAndBegins() {
        promise(10);
        WeaveMark mark = text("", "a", "b", "", "[a]: g", "", "> q", "- l", "# h", "***", "```", "x", "```", "a|b", "-|-");
        same("tops", mark.tops(), 8);
        promise(11);
        same("begins", kindsOf(mark), "p1 -4 q6 u7 h8 r9 c10 t13");
        throwing("below 0", IndexOutOfBoundsException.class, () -> mark.beginOf(-1));
        throwing("no such block", IndexOutOfBoundsException.class, () -> mark.beginOf(8));
        throwing("in no text", IndexOutOfBoundsException.class, () -> new WeaveMark().beginOf(0));
        WeaveMark moved = text("a", "", "# b", "c");
        moved.insertLine(0);
        same("kept blocks move", kindsOf(moved), "p1 h3 p4");
        moved.removeLine(0);
        moved.removeLine(1);
        same("and back", kindsOf(moved), "p0 h1 p2");
        tops("p0", "[a]: g", "text");
        tops("h0", "[a]: g", "text", "===");
    }

    private void kinds() {
        promise(12);
        WeaveMark mark = text("a");
        throwing("below 0", IndexOutOfBoundsException.class, () -> mark.kindOf(-1));
        throwing("no such block", IndexOutOfBoundsException.class, () -> mark.kindOf(1));
        tops("u0 u1 u2 o3", "- a", "+ a", "* a", "3. a");
        tops("o0", "1. a", "7. b", "1234. c");
        tops("p0", "12345. a");
        tops("u0 -2 u3", "- a", "", "[a]: g", "- b");
    }

    private void count() {
        promise(13);
        WeaveMark mark = text("> - a", ">   # h", "> - [a]: g", "> 1. x", "", "a", "***", "```", "```", "a|b", "-|-");
        same("kinds", kindsOf(mark), "q0 p5 r6 c7 t9");
        String kinds = "phquorcti";
        int[] due = {3, 1, 1, 1, 1, 1, 1, 1, 3};
        for (int kind = 0; kind < due.length; kind++) {
            same("count " + kinds.charAt(kind), mark.count(kinds.charAt(kind)), due[kind]);
        }
        for (char kind : "-xPbd \u0000".toCharArray()) {
            throwing("no such kind " + (int) kind, IllegalArgumentException.class, () -> mark.count(kind));
        }
        WeaveMark gone = text("[a]: g");
        same("a paragraph that is gone is none", gone.count('p'), 0);
    }

    private void depth() {
        promise(14);
        same("of leaves", text("a", "# b").depth(), 0);
        same("of a quote", text("> a").depth(), 1);
        same("lists do not count", text("- a", "  - b").depth(), 2);
        same("of both", text("> - > 1. a").depth(), 4);
        same("the most", text(">".repeat(40)).depth(), 40);
        same("of items", text("+ ".repeat(19) + "+").depth(), 20);
        same("not the sum", text("> a", "", "- b", "", "> c").depth(), 1);
    }

    private void looseLists() {
        promise(15);
        same("none", text("a").looseLists(), 0);
        same("tight", text("- a", "- b").looseLists(), 0);
        same("between items", text("- a", "", "- b").looseLists(), 1);
        same("at the end", text("- a", "- b", "", "c").looseLists(), 0);
        same("between blocks", text("- a", "", "  b").looseLists(), 1);
        same("within one block", text("- > a", "  >", "  > b").looseLists(), 0);
        same("only the outer one", text("- a", "  - b", "", "- c").looseLists(), 1);
        same("only the inner one", text("- a", "  - b", "", "  - c").looseLists(), 1);
        same("both", text("- a", "", "  - b", "", "    c").looseLists(), 2);
        same("empty lines of code do not count", text("- ```", "", "  ```", "- b").looseLists(), 0);
        same("behind an empty item", text("-", "", "- b").looseLists(), 1);
        same("of a quote", text("> - a", ">", "> - b").looseLists(), 1);
        same("other signs are other lists", text("- a", "", "+ b").looseLists(), 0);
        same("gone paragraphs are blocks", text("- a", "", "  [a]: g", "- b").looseLists(), 1);
        writes("<u><i><p>a</p></i><i><p>b</p><u><i>c</i></u></i></u>", "- a", "", "- b", "  - c");
    }

    private void headings() {
        promise(16);
        WeaveMark mark = text("## a", "> b", "> ===", "- ###### c", "d", "---", "# e");
        same("headings", mark.headings(), 5);
        same("none", text("a").headings(), 0);
        promise(17);
        int[] due = {2, 1, 6, 2, 1};
        for (int heading = 0; heading < due.length; heading++) {
            same("level of " + heading, mark.levelOf(heading), due[heading]);
        }
        throwing("below 0", IndexOutOfBoundsException.class, () -> mark.levelOf(-1));
        throwing("no such heading", IndexOutOfBoundsException.class, () -> mark.levelOf(5));
        throwing("in no text", IndexOutOfBoundsException.class, () -> new WeaveMark().levelOf(0));
        same("of an underline", text("d", "---").levelOf(0), 2);
    }

    private void definitionsAndNotes() {
        promise(18);
        WeaveMark mark = text("[a]: g", "[ A ]: h", "[b c]:i", "[^a]: t", "[^b]: u v", "[^B]: w");
        same("labels with a goal", mark.definitions(), 2);
        same("none", text("[a]", "[a]: g").definitions(), 0);
        same("anywhere", text("> [a]: g", "- [b]: g", "", "[c]: g").definitions(), 3);
        same("not in headings", text("[a]: g", "===").definitions(), 0);
        same("not in a table's head", text("[a]: g|", "-|").definitions(), 0);
        same("no label", text("[ ]: g").definitions() + text("[]: g").definitions() + text("[a[b]: g").definitions(), 0);
        same("no goal", text("[a]:").definitions() + text("[a]: b c").definitions() + text("[a] : b").definitions(), 0);
        same("a mark is no part of a label", text("[^]: g").definitions() + text("[^ ]: g").definitions(), 0);
        same("blanks behind it", text("[a]:   g  ").definitions(), 1);
        promise(19);
        same("labels of notes", mark.notes(), 2);
        same("no text", text("[^a]:").notes() + text("[^a]:  ").notes() + text("[^]: a").notes(), 0);
        same("a paragraph goes on behind them", written(text("[^a]: t", "[b]: g", "x", "[c]: g")), "<p>x\n[c]: g</p>");
        promise(18);
        writes("<p><a g>x</a></p>", "[x][a]", "", "[a]: g", "[a]: h");
        mark.removeLine(0);
        same("one of two is left", mark.definitions(), 2);
        mark.removeLine(0);
        same("and gone", mark.definitions(), 1);
    }

    private void usedNotes() {
        promise(20);
        WeaveMark mark = text("[^b] [^a] [^b] [^z]", "", "[^a]: 1 [^c]", "[^b]: 2", "[^c]: 3 [^a]", "[^d]: 4 [^e]", "[^e]: 5");
        same("used", mark.usedNotes(), 3);
        same("not used", text("[^a]: t").usedNotes(), 0);
        same("written by numbers", written(mark),
            "<p><n1> <n2> <n1> [^z]</p><f1>2</f><f2>1 <n3></f><f3>3 <n2></f>");
        int length = mark.write();
        String before = shown(mark, length);
        mark.usedNotes();
        same("what was written stays", shown(mark, length), before);
    }

    // ---- writing

    private void writeBlocks() {
        promise(21);
        same("nothing", written(new WeaveMark()), "");
        writes("<p>a\nb</p><p>c</p>", "a", "   b", " ", "c");
        writes("<q><p>a\nb\nc</p></q>", "> a", "b", ">c");
        writes("<q><p>a</p></q><p>b</p>", "> a", "", "b");
        writes("<q><q><p>a\nb</p></q></q>", ">> a", "> b");
        writes("<q><p>a</p></q><q><p>b</p></q>", "> a", "", "> b");
        writes("<q><u><i>a\nb</i></u></q>", "> - a", "b");
        writes("<q><c>a\n</c></q><p>b</p>", "> ```", "> a", "b");
        writes("<u><i>a</i><i>b</i></u><p>c</p>", "- a", " - b", "", "c");
        writes("<u><i>a<u><i>b</i></u></i></u>", "- a", "  - b");
        writes("<u><i></i></u><p>a</p>", "-", "", "  a");
        writes("<u><i>a</i></u>", "-", "  a");
        writes("<u><i><p>a</p><p>b</p></i></u>", "- a", "", "  b");
        writes("<u><i>a</i></u><p>b</p>", "- a", "", " b");
        writes("<o3><i>a</i><i>b</i></o>", "003. a", "1. b");
        writes("<o0><i>a</i></o>", "0. a");
        writes("<o10><i>a</i></o>", "10. a");
        writes("<o100><i>a</i></o>", "0100. a");
        writes("<o1000><i>a</i></o>", "1000. a");
        writes("<o9999><i>a</i></o>", "9999. a");
        writes("<p>a\n2. b</p>", "a", "2. b");
        writes("<p>a</p><o1><i>b</i></o>", "a", "01. b");
        writes("<p>a\n1.\n+</p>", "a", "1.", "+");
        writes("<p>a</p><u><i>b</i></u>", "a", "+ b");
        writes("<u><i>a</i></u><o2><i>b</i></o>", "- a", "2. b");
        writes("<u><i>a\n2. b</i></u>", "- a", "  2. b");
        writes("<u><i><u><i>a</i></u></i></u>", "-      - a");
        writes("<u><i><c> a\n</c></i></u>", "- ```", "   a");
        writes("<u><i>a</i></u><r><u><i>b</i></u>", "- a", "- - -", "- b");
        writes("<r><r><r>", "***", " _ _ _", "* * *");
        writes("<p>**</p><p>-*-</p>", "**", "", "-*-");
        writes("<h1>a\nb</h1><h2>c</h2>", "a", "b", " === ", "c", "-");
        writes("<q><p>a</p></q><r>", "> a", "---");
        writes("<q><p>a\n===</p></q>", "> a", "===");
        writes("<h1>a</h1><h6></h6><h2>b #c</h2><h1></h1>", "# a #", "######", "## b #c ##", "# ##");
        writes("<p>#a\n####### b</p>", "#a", "####### b");
        writes("<h1>a#</h1><h1>b #</h1>", "# a#", "# b \\#");
        writes("<c>&l&a\n  x\n``\n\n</c><p>y</p>", "``` x", "<&", "  x", "``", "", "````", "y");
        writes("<p>```a`</p>", "```a`");
        writes("<c>```\n</c>", "````", "```");
        writes("", "[a]: g");
        writes("<u><i></i></u>", "- [a]: g");
        writes("<u><i>a</i></u><u><i>b</i></u>", "- a", "+ b");
        writes("<u><i>a</i></u><u><i>b</i></u>", "- a", "", "[a]: g", "- b");
    }

    /** Only a next line of a paragraph, with all met that is open, keeps the blanks behind it. */
    private void writeBlanksBehindLines() {
        promise(21);
        // a first line is the text of the rest
        runs("a", "a  ");
        runs("a\nb", "a  ", "b");
        runs("<k>a b</k>", "`a  ", "b`");
        writes("<q><p>one</p></q>", "> one  ", "");
        writes("<q><p>a\nb</p></q>", "> a  ", "> b");
        writes("<u><i>a\nb</i></u>", "- a  ", "  b");
        writes("<q><p>a</p></q><p>b\nc</p>", "> a", ">", "b  ", "c");
        writes("<h1>a</h1><h2>b</h2>", "a  ", "===", "b   ", "--- ");
        // a line that is added lazily, too
        writes("<q><p>a\nb</p></q>", "> a", "b  ");
        writes("<q><p>a\nb\nc</p></q>", "> a", "b  ", "c");
        writes("<q><p>a\nb\nc</p></q>", "> a", "b  ", "> c");
        writes("<u><i>a\nb\nc</i></u>", "- a", "b  ", "  c");
        writes("<q><q><p>a\nb\nc</p></q></q>", ">> a", "> b  ", ">> c");
        // a next line keeps them, at the end of the paragraph and ahead of a line of any kind
        runs("a\nb  ", "a", "b  ");
        runs("a\nb<b>c ", "a", "b  ", "c ");
        writes("<q><p>a\nb<b>c</p></q>", "> a", "> b  ", "> c", "");
        writes("<q><p>a\nb<b>c</p></q>", "> a", "> b  ", "c");
        writes("<q><p>a\nb\nc<b>d</p></q>", "> a", "b  ", "> c  ", "d");
        writes("<u><i>a\nb   </i></u>", "- a", "  b   ");
        writes("<h1>a\nb  </h1>", "a", "b  ", "===");
        writes("<h1>a\nb<b>c</h1>", "a", "b  ", "c", "===");
        // it stays a next line when the definition ahead of it is taken out
        runs("a<b>b", "[a]: g", "a  ", "b");
        runs("a  ", "[a]: g", "a  ");
        writes("", "[a]: g  ", "[b]: h  ");
        // rows of tables keep none
        writes("<t><w><d>a</d></w><w><d>b</d></w><w><d>c</d></w></t>", "a|  ", "-|  ", "b  ", "c|   ");
        WeaveMark mark = text("> a", "b  ", "> c");
        type(mark, "> b  ");
        mark.setLine(1);
        same("met by an edit", written(mark), "<q><p>a\nb<b>c</p></q>");
        mark.removeLine(0);
        same("first by an edit", written(mark), "<q><p>b\nc</p></q>");
    }

    private void writeCells() {
        promise(21);
        String head = "<w><d>a</d><d>b</d></w>";
        writes("<t>" + head + "</t>", "a|b", "-|-");
        writes("<t>" + head + "<w><d>c</d><d></d></w><w><d>d</d><d>e</d></w></t>", "|a | b|", ":-: | ---", "c", "d|e|f");
        writes("<t>" + head + "</t><p>c</p>", "a|b", "-|-", "", "c");
        writes("<t>" + head + "</t><r>", "a|b", "-|-", "---");
        writes("<t><w><d>a|b</d></w></t>", "a\\|b", "-|");
        writes("<t><w><d>a</d></w><w><d></d></w></t>", "a|", "|-|", "|");
        writes("<t><w><d>a</d></w></t>", "|a|  ", "-|");
        writes("<p>a|b\n-|</p>", "a|b", "-|");
        writes("<p>ab\n|-|</p>", "ab", "|-|");
        writes("<p>x\na|b\n-|-</p>", "x", "a|b", "-|-");
        writes("<p>a|b\n-|:</p>", "a|b", "-|:");
        writes("<h2>a|</h2>", "a|", "-");
        writes("<q><p>a|b\n-|-</p></q>", "> a|b", "-|-");
        writes("<t><w><d><e>a</e></d><d>*b</d></w></t>", "*a*|*b", "-|-");
    }

    private void writeRuns() {
        promise(21);
        runs("&la>&a", "<a>&");
        runs("*\\a\\ \\", "\\*\\a\\ \\");
        runs("a <b>b", "a \\", "b");
        runs("x\na<b>b", "x", "a  ", "b");
        runs("x\na\nb", "x", "a ", "  b");
        runs("<k>*a* \\</k>", "`*a* \\`");
        runs("<k>a`b</k>", "`` a`b ``");
        runs("<k>  </k> <k> a</k>", "`  ` ` a`");
        runs("<k>a b</k>", "`a", "b`");
        runs("x\n<k>a   b</k>", "x", "`a  ", "b`");
        runs("``a`", "``a`");
        runs("`<k>a</k>", "\\``a`");
        runs("a\\\nb", "a\\\\ ", "b");
    }

    private void writeBrackets() {
        promise(21);
        runs("<a g>x</a>", "[x](g)");
        runs("<a >x</a>", "[x]()");
        runs("[x](g h) [x](g(h)", "[x](g h) [x](g(h)");
        runs("<a &l&a>x</a>", "[x](<&)");
        runs("<m g>x <e>y</e></m>", "![x *y*](g)");
        runs("[a <a g>b</a> c](h)", "[a [b](g) c](h)");
        runs("<a h>a <m g>b</m> c</a>", "[a ![b](g) c](h)");
        runs("<m h>a <a g>b</a> c</m>", "![a [b](g) c](h)");
        runs("]a]", "]a]");
        runs("[a[b]", "[a[b]");
        runs("[<a g>b</a>", "[[b](g)");
        runs("[x][x]", "[x][x]");
        runs("<m g>".repeat(12) + "\nx" + "</m>".repeat(9) + "\n" + "</m>".repeat(3),
            "![".repeat(12), "x" + "](g)".repeat(9), "](g)".repeat(3));
        String[] defined = {"", "[x y]: g", "[^n]: t", "[z]: <"};
        bracket("<a g>X Y</a>", "[X Y]", defined);
        bracket("<a g>x\ny</a>", "[x", defined, "y]");
        bracket("<a g>x y</a>", "[x y][]", defined);
        bracket("<a g>a</a>", "[a][ X Y ]", defined);
        bracket("<a g>x y</a>[a]", "[x y][a]", defined);
        bracket("<a &l>x y</a>", "[x y][z]", defined);
        bracket("<a h>x y</a>", "[x y](h)", defined);
        bracket("<m g>x y</m>!", "![x y]!", defined);
        bracket("[x  y]", "[x  y]", defined);
        bracket("[^x y] ![^n]", "[^x y] ![^n]", defined);
        same("a note", written(text("[^N](g) [^ n]", "", "[^n]: *t*")), "<p><n1>(g) <n1></p><f1><e>t</e></f>");
        same("a note in a link", written(text("[a [^n]](g)", "", "[^n]: t")), "<p><a g>a <n1></a></p><f1>t</f>");
        same("no note, but a link", written(text("[^m](g)", "", "[^n]: t")), "<p><a g>^m</a></p>");
    }

    private void bracket(String due, String line, String[] defined, String... more) {
        WeaveMark mark = text(line);
        add(mark, more);
        add(mark, defined);
        same("write of " + line, written(mark), "<p>" + due + "</p>");
    }

    private void writeEmphasis() {
        promise(21);
        runs("<e>a</e> <s>b</s> <e><s>c</s></e>", "*a* **b** ***c***");
        runs("<e>a</e> <s>b</s> a_b_c", "_a_ __b__ a_b_c");
        runs("a<e>b</e>c", "a*b*c");
        runs("a * b ** c *d", "a * b ** c *d");
        runs("<e>a</e> _b ".repeat(2) + "<e>a</e> _b\n" + "<e>a</e> _b ".repeat(3) + "c", "*a* _b ".repeat(3), "*a* _b ".repeat(3) + "c");
        runs("*a_", "*a_");
        runs("<e>a</e>*", "*a**");
        runs("*<e>a</e>", "**a*");
        runs("<e>a**b</e>", "*a**b*");
        runs("<s>a<e>b</e></s>", "**a*b***");
        runs("<e>a _b</e> c_", "*a _b* c_");
        runs("*a <a g>b*</a>", "*a [b*](g)");
        runs("<e>a <a g>b</a> c</e>", "*a [b](g) c*");
        runs("<a g><e>b</e>*</a> a*", "[*b**](g) a*");
        runs("a*\"b\"*", "a*\"b\"*");
        runs("a \"<e>\"b</e>\"", "a \"*\"b*\"");
        runs("<e>(a)</e>", "_(a)_");
        runs("*(a)*b", "*(a)*b");
        runs("a_(b)_", "a_(b)_");
        runs("-<e>(a)</e>-", "-_(a)_-");
    }

    /** Letters, digits and signs, each of the characters in its own place. */
    private void writeAllSigns() {
        promise(21);
        for (char sign = '!'; sign <= '~'; sign++) {
            boolean isSign = !Character.isLetterOrDigit(sign);
            String written = sign == '<' ? "&l" : sign == '&' ? "&a" : String.valueOf(sign);
            runs("a" + (isSign ? "" : "\\") + written + "b", "a\\" + sign + "b");
            if ("*_`\\[]".indexOf(sign) < 0) {
                String due = isSign ? "a*" + written + "b*" : "a<e>" + written + "b</e>";
                runs(due, "a*" + sign + "b*");
                due = isSign ? "a" + written + "<e>b</e>" + written : "a" + written + "_b_" + written;
                runs(due, "a" + sign + "_b_" + sign);
            }
        }
        String great = "ABCDEFGHIJKLMNOPQRSTUVWXYZ 0123456789";
        WeaveMark mark = text("[" + great.toLowerCase() + "]", "", "[" + great.substring(0, 36) + "]:9");
        same("the longest label is another", mark.links(), 0);
        mark = text("[" + great.toLowerCase().substring(0, 36) + "]", "", "[" + great.substring(0, 36) + "]:9");
        same("the same label", mark.links(), 1);
    }

    private void writeTop() {
        promise(22);
        WeaveMark mark = text("[^b]", "", "[^a]", "", "[^a]: 1", "[^b]: 2", "", "- x");
        same("the first", shown(mark, mark.writeTop(0)), "<p><n1></p>");
        same("numbers as in the whole text", shown(mark, mark.writeTop(1)), "<p><n2></p>");
        same("one that is gone", mark.writeTop(2), 0);
        throwing("nothing was written", IndexOutOfBoundsException.class, () -> mark.charAt(0));
        same("a list", shown(mark, mark.writeTop(3)), "<u><i>x</i></u>");
        throwing("below 0", IndexOutOfBoundsException.class, () -> mark.writeTop(-1));
        throwing("no such block", IndexOutOfBoundsException.class, () -> mark.writeTop(4));
        same("what was written stays", mark.charAt(1), 'u');
    }

    private void writeAnew() {
        promise(23);
        WeaveMark mark = text("# a", "# b", "[^n]: t", "", "[^n]");
        int read = mark.read();
        int last = mark.readLast();
        float share = mark.keptShare();
        same("all", shown(mark, mark.writeAnew()), "<h1>a</h1><h1>b</h1><p><n1></p><f1>t</f>");
        same("read stays", mark.read(), read);
        same("readLast stays", mark.readLast(), last);
        same("keptShare stays", mark.keptShare(), share);
        type(mark, "# c");
        mark.setLine(1);
        same("and the tree", shown(mark, mark.write()), "<h1>a</h1><h1>c</h1><p><n1></p><f1>t</f>");
    }

    private void charAt() {
        promise(24);
        WeaveMark mark = text("a");
        throwing("nothing was written", IndexOutOfBoundsException.class, () -> mark.charAt(0));
        mark.write();
        same("the first", mark.charAt(0), '<');
        same("the last", mark.charAt(7), '>');
        throwing("below 0", IndexOutOfBoundsException.class, () -> mark.charAt(-1));
        throwing("behind it", IndexOutOfBoundsException.class, () -> mark.charAt(8));
        mark.removeLine(0);
        mark.links();
        mark.usedNotes();
        mark.isSound();
        same("it stays until the next writing", shown(mark, 8), "<p>a</p>");
        mark.writeAnew();
        throwing("and is gone then", IndexOutOfBoundsException.class, () -> mark.charAt(0));
    }

    private void links() {
        promise(25);
        same("none", text("[a]").links(), 0);
        same("links and pictures", text("[a](g) ![b ![c](g)](h)").links(), 3);
        same("in all that has runs", text("# [a](g)", "[a](g)|[b](g)", "-|-", "", "> - [a](g)").links(), 4);
        same("not in cells left out", text("a|", "-|", "b|[a](g)").links(), 0);
        same("in notes that are used", text("[^n] [^n]", "", "[^n]: [a](g)", "[^m]: [a](g)").links(), 1);
        same("not in code", text("`[a](g)`", "```", "[a](g)").links(), 0);
        WeaveMark mark = text("[a](g)");
        mark.write();
        mark.links();
        same("what was written stays", mark.charAt(4), 'a');
    }

    private void keptShare() {
        promise(26);
        throwing("no edit", ArithmeticException.class, () -> new WeaveMark().keptShare());
        WeaveMark mark = text("# a", "# b", "# c");
        same("of 6 lines 5 were read", mark.keptShare(), 1f / 6f);
        mark.removeLine(0);
        same("of 8", mark.keptShare(), 3f / 8f);
        throwing("a call that throws is no edit", IndexOutOfBoundsException.class, () -> mark.removeLine(9));
        same("so it stays", mark.keptShare(), 3f / 8f);
    }

    private void meanLength() {
        promise(27);
        WeaveMark mark = new WeaveMark();
        throwing("no lines", ArithmeticException.class, mark::meanLength);
        add(mark, "ab", "", "c d");
        same("with blanks", mark.meanLength(), 5.0 / 3.0);
        mark.removeLine(0);
        same("one less", mark.meanLength(), 1.5);
        mark.removeLine(0);
        mark.removeLine(0);
        throwing("no lines any more", ArithmeticException.class, mark::meanLength);
    }

    private void isSound() {
        promise(28);
        WeaveMark mark = text("> a", "b", "", "```", "[a]: g", "- x", "", "- [a]");
        same("sound", mark.isSound(), true);
        int read = mark.read();
        mark.removeLine(3);
        same("behind an edit", mark.isSound(), true);
        int behind = mark.read();
        mark.isSound();
        same("it counts nothing", mark.read(), behind);
        same("as the edit did", behind > read, true);
        mark.insertLine(0);
        same("with all moved", mark.isSound(), true);
    }
}
