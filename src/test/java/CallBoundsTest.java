import java.lang.reflect.Field;
import java.lang.reflect.Method;
import java.util.Arrays;

/**
 * The sentences of the document on edits, on exceptions and on single promises that name a boundary. An
 * object that refuses a call is compared by all its answers ahead of the call and behind it.
 */
public final class CallBoundsTest extends Checks {

    private static final Class<?> NO_PLACE = IndexOutOfBoundsException.class;
    /** Numbers that are out of any bounds. */
    private static final int[] FAR = {-1, -2, 1000, Integer.MIN_VALUE, Integer.MAX_VALUE, 0x55555555, 1 << 30};

    public static void main(String[] args) {
        CallBoundsTest test = new CallBoundsTest();
        test.newObject();
        test.buffer();
        test.bufferBehindCalls();
        test.fullText();
        test.placesOfInsert();
        test.linesOfSet();
        test.linesOfRemove();
        test.firstException();
        test.topBlocks();
        test.kindsOfCount();
        test.levels();
        test.depth();
        test.labels();
        test.topsWritten();
        test.charactersShown();
        test.writtenAnew();
        test.links();
        test.share();
        test.meanLength();
        test.sound();
        test.unsound();
        test.readingBegins();
        test.readingEnds();
        test.readingEndsWhereBothBegin();
        test.readingOfRemoved();
        test.countedReading();
        test.keptBlocks();
        test.close("CallBoundsTest");
    }

    // ---- helpers

    private interface Asked {
        Object answer(WeaveMark mark);
    }

    /** All that can be asked for, but for the buffer, without writing. */
    private static String told(WeaveMark mark) {
        StringBuilder out = new StringBuilder();
        for (int index = 0; index < 1000; index++) {
            try {
                out.append(mark.charAt(index));
            } catch (IndexOutOfBoundsException e) {
                break;
            }
        }
        out.append(' ').append(mark.lines()).append(' ').append(mark.read()).append(' ').append(mark.readLast());
        out.append(' ').append(kindsOf(mark));
        for (char kind : "phquorcti".toCharArray()) {
            out.append(' ').append(mark.count(kind));
        }
        out.append(' ').append(mark.depth()).append(' ').append(mark.looseLists());
        for (int heading = 0; heading < mark.headings(); heading++) {
            out.append(' ').append(mark.levelOf(heading));
        }
        out.append(' ').append(mark.definitions()).append(' ').append(mark.notes()).append(' ').append(mark.usedNotes());
        out.append(' ').append(mark.links()).append(' ').append(mark.isSound());
        if (mark.lines() > 0) {
            out.append(' ').append(mark.meanLength()).append(' ').append(mark.keptShare());
        }
        return out.toString();
    }

    /** The call throws just this exception and changes nothing that can be asked for. */
    private void refused(String what, WeaveMark mark, Class<?> due, Call call) {
        String before = told(mark);
        throwing(what, due, call);
        same(what + ": nothing changed", told(mark), before);
    }

    /** A new text of some kinds of blocks, with something written and 2 characters in the buffer, refuses. */
    private void refusedByBusy(String what, Class<?> due, Asked call) {
        WeaveMark mark = text("# a", "> - b", "", "[^n] [x](g)", "", "[^n]: t", "[d]: g");
        mark.writeTop(1);
        type(mark, "yz");
        refused(what, mark, due, () -> call.answer(mark));
        bufferHolds(2, mark);
    }

    /** A new text of 24 lines, with so many characters in the buffer, refuses. */
    private void refusedByFull(String what, int typed, Class<?> due, Asked call) {
        WeaveMark mark = empty(22);
        add(mark, "# a", "b");
        type(mark, "x".repeat(typed));
        refused(what, mark, due, () -> call.answer(mark));
        bufferHolds(typed, mark);
    }

    /** What the buffer holds becomes the last line, whose length is told as it is replaced. */
    private void bufferHolds(int due, WeaveMark mark) {
        int last = mark.lines() - 1;
        mark.setLine(last);
        same("the buffer stays", mark.setLine(last), due);
    }

    private static WeaveMark heads(int lines) {
        WeaveMark mark = new WeaveMark();
        for (int line = 0; line < lines; line++) {
            add(mark, "#");
        }
        return mark;
    }

    // ---- lines

    private void newObject() {
        sentence("Creates an empty text");
        WeaveMark mark = new WeaveMark();
        same("all answers", told(mark), " 0 0 0  0 0 0 0 0 0 0 0 0 0 0 0 0 0 0 true");
        throwing("no line", NO_PLACE, () -> mark.setLine(0));
        throwing("none to take out", NO_PLACE, () -> mark.removeLine(0));
        throwing("no block", NO_PLACE, () -> mark.beginOf(0));
        throwing("nothing written", NO_PLACE, () -> mark.charAt(0));
        same("the buffer is empty", mark.type('a'), 1);
    }

    private void buffer() {
        sentence("if there is no such character");
        for (int sign : new int[] {0, 10, 31, 127, 128, 255, 256 + 65, 65535}) {
            refusedByBusy("type " + sign, IllegalArgumentException.class, mark -> mark.type((char) sign));
        }
        sentence("if there are 40");
        WeaveMark full = text("a");
        type(full, "b".repeat(39));
        same("the 40th", full.type(' '), 40);
        refused("the 41st", full, IllegalStateException.class, () -> full.type('c'));
        refused("a 41st of 126", full, IllegalStateException.class, () -> full.type('~'));
        bufferHolds(40, full);
        same("none is left in the buffer", full.type('a'), 1);
    }

    private void bufferBehindCalls() {
        sentence("the buffer is empty then");
        WeaveMark mark = new WeaveMark();
        type(mark, "ab");
        mark.addLine();
        same("behind addLine", mark.type('c'), 1);
        mark.insertLine(0);
        same("behind insertLine", mark.type('d'), 1);
        mark.setLine(0);
        same("behind setLine", mark.type('e'), 1);
        mark.removeLine(0);
        same("not behind removeLine", mark.type('f'), 2);
        mark.write();
        mark.isSound();
        same("not behind others", mark.type('g'), 3);
        mark.addLine();
        same("in their order", written(mark), "<p>ab\nefg</p>");
    }

    private void fullText() {
        sentence("if there are 24 lines");
        WeaveMark mark = empty(23);
        same("the 24th", mark.insertLine(12), 24);
        throwing("the 25th", IllegalStateException.class, mark::addLine);
        mark.removeLine(0);
        same("there is room again", mark.addLine(), 24);
        refusedByFull("addLine", 1, IllegalStateException.class, WeaveMark::addLine);
        for (int line : new int[] {0, 1, 12, 23, 24}) {
            refusedByFull("insertLine " + line, 1, IllegalStateException.class, full -> full.insertLine(line));
        }
    }

    private void placesOfInsert() {
        sentence("if it is less than 0 or greater than the number of lines");
        refusedByBusy("one more than the lines", NO_PLACE, mark -> mark.insertLine(8));
        for (int line : FAR) {
            refusedByBusy("insertLine " + line, NO_PLACE, mark -> mark.insertLine(line));
        }
        WeaveMark other = text("b");
        type(other, "a");
        same("0", other.insertLine(0), 2);
        type(other, "c");
        same("as many as the lines", other.insertLine(2), 3);
        same("their places", written(other), "<p>a\nb\nc</p>");
        WeaveMark none = new WeaveMark();
        refused("1 in no text", none, NO_PLACE, () -> none.insertLine(1));
        same("0 in no text", none.insertLine(0), 1);
    }

    private void linesOfSet() {
        sentence("Returns the length of the line before");
        WeaveMark mark = new WeaveMark();
        mark.addLine();
        int before = 0;
        for (int length : new int[] {1, 39, 40, 0, 0}) {
            type(mark, "c".repeat(length));
            same("a line of " + before, mark.setLine(0), before);
            before = length;
        }
        sentence("if there is no such line");
        refusedByBusy("setLine 7 of 7", NO_PLACE, other -> other.setLine(7));
        refusedByFull("setLine 24 of 24", 1, NO_PLACE, full -> full.setLine(24));
        for (int line : FAR) {
            refusedByBusy("setLine " + line, NO_PLACE, other -> other.setLine(line));
        }
        WeaveMark two = text("a", "bc");
        same("the last one", two.setLine(1), 2);
        same("the first one", two.setLine(0), 1);
        same("both are blank now", two.write(), 0);
        WeaveMark none = new WeaveMark();
        refused("in no text", none, NO_PLACE, () -> none.setLine(0));
    }

    private void linesOfRemove() {
        sentence("if there is no such line");
        refusedByBusy("removeLine 7 of 7", NO_PLACE, other -> other.removeLine(7));
        refusedByFull("removeLine 24 of 24", 1, NO_PLACE, full -> full.removeLine(24));
        for (int line : FAR) {
            refusedByBusy("removeLine " + line, NO_PLACE, other -> other.removeLine(line));
        }
        WeaveMark full = full();
        same("the last of 24", full.removeLine(23), 23);
        same("the first of 23", full.removeLine(0), 22);
        throwing("22 of 22", NO_PLACE, () -> full.removeLine(22));
        WeaveMark one = text("a");
        same("the only one", one.removeLine(0), 0);
        refused("none is left", one, NO_PLACE, () -> one.removeLine(0));
    }

    private void firstException() {
        sentence("If several exceptions apply, the one that is documented first is thrown");
        for (int sign : new int[] {0, 31, 127, 65535}) {
            refusedByFull("type " + sign + " as the 41st", 40, IllegalArgumentException.class, mark -> mark.type((char) sign));
        }
        refusedByFull("type 32 as the 41st", 40, IllegalStateException.class, mark -> mark.type((char) 32));
        refusedByFull("type 31 as the 40th", 39, IllegalArgumentException.class, mark -> mark.type((char) 31));
        for (int line : new int[] {-1, 25, Integer.MIN_VALUE, Integer.MAX_VALUE}) {
            refusedByFull("the 25th line at " + line, 1, NO_PLACE, mark -> mark.insertLine(line));
        }
        refusedByFull("the 25th line at 0", 1, IllegalStateException.class, mark -> mark.insertLine(0));
        refusedByFull("the 25th line at 24", 1, IllegalStateException.class, mark -> mark.insertLine(24));
    }

    // ---- blocks

    private void topBlocks() {
        sentence("if there is no such block");
        same("of four blocks", kindsOf(text("# a", "> - b", "", "x", "", "[^n]: t", "[d]: g")), "h0 q1 p3 -5");
        for (int top : new int[] {4, 5, 6, 7}) {
            refusedByBusy("beginOf " + top, NO_PLACE, mark -> mark.beginOf(top));
            refusedByBusy("kindOf " + top, NO_PLACE, mark -> mark.kindOf(top));
        }
        for (int top : FAR) {
            refusedByBusy("beginOf " + top, NO_PLACE, mark -> mark.beginOf(top));
            refusedByBusy("kindOf " + top, NO_PLACE, mark -> mark.kindOf(top));
        }
        WeaveMark full = heads(24);
        same("the most", full.tops(), 24);
        same("the last begins", full.beginOf(23), 23);
        same("the last one's kind", full.kindOf(23), 'h');
        throwing("beginOf 24", NO_PLACE, () -> full.beginOf(24));
        throwing("kindOf 24", NO_PLACE, () -> full.kindOf(24));
        WeaveMark blank = empty(3);
        same("none of blank lines", blank.tops(), 0);
        refused("beginOf 0 of blank lines", blank, NO_PLACE, () -> blank.beginOf(0));
        refused("kindOf 0 of blank lines", blank, NO_PLACE, () -> blank.kindOf(0));
    }

    private void kindsOfCount() {
        sentence("a kind of kindOf() but '-', or 'i' items");
        String kinds = "phquorcti";
        for (int first = 0; first < 65536; first += 400) {
            WeaveMark mark = new WeaveMark();
            for (int kind = first; kind < Math.min(65536, first + 400); kind++) {
                char asked = (char) kind;
                if (kinds.indexOf(asked) >= 0) {
                    same("count " + asked, mark.count(asked), 0);
                } else {
                    throwing("count " + kind, IllegalArgumentException.class, () -> mark.count(asked));
                }
            }
        }
        for (char kind : "-a PI".toCharArray()) {
            refusedByBusy("count " + kind, IllegalArgumentException.class, mark -> mark.count(kind));
        }
        sentence("how many blocks of a kind the text has, those within others, too");
        WeaveMark deep = text("- > # a", "> - 1. ***", "", "- - b", "  ```", "", "> a|", "> -|");
        StringBuilder counted = new StringBuilder();
        for (char kind : kinds.toCharArray()) {
            counted.append(kind).append(deep.count(kind)).append(' ');
        }
        same("of each kind", counted.toString(), "p1 h1 q3 u4 o1 r1 c1 t1 i5 ");
    }

    private void levels() {
        sentence("if there is no such heading");
        WeaveMark mark = text("## a", "", "> b", "> ===", "- ###### c");
        same("three", mark.headings(), 3);
        same("the first", mark.levelOf(0), 2);
        same("the second", mark.levelOf(1), 1);
        same("the last", mark.levelOf(2), 6);
        refused("levelOf 3", mark, NO_PLACE, () -> mark.levelOf(3));
        for (int heading : new int[] {1, 2, 4}) {
            refusedByBusy("levelOf " + heading + " of one", NO_PLACE, busy -> busy.levelOf(heading));
        }
        for (int heading : FAR) {
            refusedByBusy("levelOf " + heading, NO_PLACE, busy -> busy.levelOf(heading));
        }
        WeaveMark none = text("a", "> b");
        refused("levelOf 0 without a heading", none, NO_PLACE, () -> none.levelOf(0));
        String[] most = new String[24];
        Arrays.fill(most, "#");
        most[23] = "###";
        same("the 24th", text(most).levelOf(23), 3);
        throwing("the 25th", NO_PLACE, () -> text(most).levelOf(24));
    }

    private void depth() {
        sentence("how many quotes and items are within one another at most");
        same("no text", new WeaveMark().depth(), 0);
        same("a leaf", text("a").depth(), 0);
        same("a quote", text(">").depth(), 1);
        same("an item", text("-").depth(), 1);
        same("39", text(">".repeat(39) + "a").depth(), 39);
        same("40", text(">".repeat(40)).depth(), 40);
        same("the deepest ends", text(">>>", "", "> a").depth(), 3);
        same("the deepest comes late", text("> a", "", ">>> a").depth(), 3);
        same("both", text("- > 1. > a").depth(), 4);
    }

    private void labels() {
        sentence("how many labels have a goal");
        same("none", new WeaveMark().definitions(), 0);
        String[] most = new String[24];
        for (int line = 0; line < 24; line++) {
            most[line] = "[" + (char) ('a' + line) + "]:g";
        }
        same("24", text(most).definitions(), 24);
        most[23] = "[a]:h";
        same("23", text(most).definitions(), 23);
        sentence("how many labels are notes");
        same("none", new WeaveMark().notes(), 0);
        for (int line = 0; line < 24; line++) {
            most[line] = "[^" + (char) ('a' + line) + "]:t";
        }
        same("24", text(most).notes(), 24);
        most[23] = "[^A]:t";
        same("23", text(most).notes(), 23);
        sentence("how many notes are used");
        same("none", text("[^a]: t").usedNotes(), 0);
        same("one", text("[^a] [^A] [^b]", "", "[^a]: t").usedNotes(), 1);
        same("by one another", text("[^a]", "", "[^a]: [^b]", "[^b]: [^c]", "[^c]: t", "[^d]: t").usedNotes(), 3);
        // one line uses a note, and each of the others uses the next one
        for (int line = 0; line < 23; line++) {
            most[line] = "[^" + (char) ('a' + line) + "]: [^" + (char) ('b' + line) + "]";
        }
        most[23] = "[^a]";
        same("all 23", text(most).usedNotes(), 23);
    }

    // ---- writing

    private void topsWritten() {
        sentence("if there is no such block");
        for (int top : new int[] {4, 5, 6, 7}) {
            refusedByBusy("writeTop " + top, NO_PLACE, mark -> mark.writeTop(top));
        }
        for (int top : FAR) {
            refusedByBusy("writeTop " + top, NO_PLACE, mark -> mark.writeTop(top));
        }
        WeaveMark none = new WeaveMark();
        refused("writeTop 0 of nothing", none, NO_PLACE, () -> none.writeTop(0));
        WeaveMark full = heads(24);
        same("the 24th", full.writeTop(23), 9);
        throwing("writeTop 24", NO_PLACE, () -> full.writeTop(24));
        sentence("with the numbers of notes as in the whole text, without the notes");
        WeaveMark other = text("[^m]", "", "[^n][^m]", "", "[^n]: n", "[^m]: m");
        same("the first", shown(other, other.writeTop(0)), "<p><n1></p>");
        same("the second", shown(other, other.writeTop(1)), "<p><n2><n1></p>");
        same("the last is gone", other.writeTop(2), 0);
        same("the whole text", written(other), "<p><n1></p><p><n2><n1></p><f1>m</f><f2>n</f>");
    }

    private void charactersShown() {
        sentence("Returns a character of what was written last");
        // 22 characters are written of this one
        refusedByBusy("charAt 22", NO_PLACE, busy -> busy.charAt(22));
        refusedByBusy("charAt 23", NO_PLACE, busy -> busy.charAt(23));
        for (int index : FAR) {
            refusedByBusy("charAt " + index, NO_PLACE, busy -> busy.charAt(index));
        }
        WeaveMark mark = text("a");
        throwing("nothing was written", NO_PLACE, () -> mark.charAt(0));
        same("write", mark.write(), 8);
        same("the first", mark.charAt(0), '<');
        same("the last", mark.charAt(7), '>');
        throwing("charAt 8", NO_PLACE, () -> mark.charAt(8));
        add(mark, "b", "", "# c");
        throwing("an edit writes nothing", NO_PLACE, () -> mark.charAt(8));
        same("writeTop", mark.writeTop(1), 10);
        same("its last", mark.charAt(9), '>');
        throwing("charAt 10", NO_PLACE, () -> mark.charAt(10));
        same("writeAnew", mark.writeAnew(), 20);
        same("its last", mark.charAt(19), '>');
        throwing("charAt 20", NO_PLACE, () -> mark.charAt(20));
        WeaveMark none = new WeaveMark();
        same("nothing is written", none.write() + none.writeAnew(), 0);
        refused("charAt 0 of nothing", none, NO_PLACE, () -> none.charAt(0));
    }

    private void writtenAnew() {
        sentence("as if all lines were read anew; nothing of this is counted");
        WeaveMark mark = text("# a", "> b", "c", "[^n]");
        int read = mark.read();
        int last = mark.readLast();
        float share = mark.keptShare();
        mark.writeAnew();
        mark.isSound();
        mark.write();
        mark.writeTop(0);
        same("read", mark.read(), read);
        same("readLast", mark.readLast(), last);
        same("keptShare", mark.keptShare(), share);
        add(mark, "d");
        same("the next edit reads what it reaches", mark.readLast(), 4);
    }

    private void links() {
        sentence("how many links and pictures the whole text has, in its blocks and in the notes that are used");
        same("none", new WeaveMark().links(), 0);
        same("no link", text("[x]").links(), 0);
        same("one", text("[x](g)").links(), 1);
        same("a picture", text("![x](g)").links(), 1);
        same("8 in a line", text("[](g)".repeat(8)).links(), 8);
        same("a note in no use", text("x", "", "[^n]: [x](g)").links(), 0);
        same("a note in use", text("[^n]", "", "[^n]: [x](g)").links(), 1);
        same("a note in use twice", text("[^n][^n]", "", "[^n]: [x](g)").links(), 1);
        same("a note in a note", text("[^n]", "", "[^n]: [^m]", "[^m]: [x](g)").links(), 1);
        WeaveMark mark = text("[x](g)", "", "# [y](h)");
        mark.writeTop(1);
        same("of the whole text", mark.links(), 2);
        same("what was written stays", shown(mark, 19), "<h1><a h>y</a></h1>");
    }

    private void share() {
        sentence("Throws `ArithmeticException` if that is 0");
        WeaveMark mark = new WeaveMark();
        refused("no edit", mark, ArithmeticException.class, mark::keptShare);
        throwing("a refused edit", NO_PLACE, () -> mark.removeLine(0));
        throwing("is none", ArithmeticException.class, mark::keptShare);
        mark.write();
        mark.writeAnew();
        throwing("nor is writing one", ArithmeticException.class, mark::keptShare);
        mark.addLine();
        same("one line, one read", mark.keptShare(), 0f);
        mark.removeLine(0);
        same("no line, none read", mark.keptShare(), 0f);
        add(mark, "# a");
        same("of 2 lines 2", mark.keptShare(), 0f);
        sentence("the number of lines that the text had behind each edit less those that it read, summed");
        add(mark, "# b", "# c");
        // behind the edits the text had 1, 0, 1, 2 and 3 lines; they read 1, 0, 1, 2 and 2
        same("of 7 lines 6", mark.keptShare(), 1f / 7f);
        mark.setLine(0);
        same("of 10 lines 7", mark.keptShare(), 3f / 10f);
        throwing("a refused edit counts nothing", NO_PLACE, () -> mark.setLine(3));
        same("so it stays", mark.keptShare(), 3f / 10f);
    }

    private void meanLength() {
        sentence("if there are no lines");
        WeaveMark mark = new WeaveMark();
        refused("of none", mark, ArithmeticException.class, mark::meanLength);
        type(mark, "abc");
        throwing("the buffer is no line", ArithmeticException.class, mark::meanLength);
        mark.addLine();
        same("of one", mark.meanLength(), 3.0);
        mark.addLine();
        same("of two", mark.meanLength(), 1.5);
        mark.removeLine(0);
        same("of one without a character", mark.meanLength(), 0.0);
        mark.removeLine(0);
        refused("of none again", mark, ArithmeticException.class, mark::meanLength);
        WeaveMark most = new WeaveMark();
        add(most, "a".repeat(40), " ".repeat(40), "b".repeat(40));
        same("of the longest", most.meanLength(), 40.0);
        add(most, "a");
        same("of four", most.meanLength(), 30.25);
        same("of 24 empty ones", full().meanLength(), 0.0);
        same("no whole number", text("a", "", "").meanLength(), 1.0 / 3.0);
    }

    /** Sets a field of a block of the kept tree: no call of the face can leave a text unsound. */
    private static void spoil(WeaveMark mark, int block, String field, int value) {
        try {
            Field kept = WeaveMark.class.getDeclaredField("kept");
            kept.setAccessible(true);
            Object tree = kept.get(mark);
            Field number = tree.getClass().getDeclaredField(field);
            number.setAccessible(true);
            Method set = tree.getClass().getDeclaredMethod("set", int.class, int.class, int.class);
            set.setAccessible(true);
            set.invoke(tree, block, number.getInt(null), value);
        } catch (ReflectiveOperationException e) {
            throw new IllegalStateException(e);
        }
    }

    private void unsound() {
        sentence("what write() and writeAnew() would write is the same, and the top blocks begin at rising lines");
        WeaveMark mark = text("# a", "# b", "", "c");
        same("sound", mark.isSound(), true);
        spoil(mark, 0, "VALUE", 2);
        same("another character", mark.isSound(), false);
        spoil(mark, 0, "VALUE", 1);
        same("sound again", mark.isSound(), true);
        spoil(mark, 2, "KIND", '-');
        same("less is written", mark.isSound(), false);
        spoil(mark, 2, "KIND", 'p');
        same("sound again", mark.isSound(), true);
        for (int line : new int[] {0, 1}) {
            spoil(mark, 2, "BEGIN", line);
            same("the third block begins at " + line, mark.isSound(), false);
        }
        spoil(mark, 2, "BEGIN", 2);
        same("it begins behind the second one", mark.isSound(), true);
        spoil(mark, 0, "BEGIN", 1);
        same("the first block begins at 1", mark.isSound(), false);
    }

    private void sound() {
        sentence("Returns true if so");
        same("nothing", new WeaveMark().isSound(), true);
        same("blank lines", full().isSound(), true);
        WeaveMark mark = text("> a", "b", "- c", "```", "", "[a]: g", "***");
        same("behind lines", mark.isSound(), true);
        for (int line = 6; line >= 0; line--) {
            mark.removeLine(line / 2);
            same("behind a removal", mark.isSound(), true);
        }
    }

    // ---- edits

    private void reads(String what, WeaveMark mark, int due, Call edit) {
        int before = mark.read();
        edit.answer();
        same(what + ": readLast", mark.readLast(), due);
        same(what + ": read", mark.read(), before + due);
        same(what + ": sound", mark.isSound(), true);
    }

    private static int set(WeaveMark mark, int line, String with) {
        type(mark, with);
        return mark.setLine(line);
    }

    private static int insert(WeaveMark mark, int line, String with) {
        type(mark, with);
        return mark.insertLine(line);
    }

    private static WeaveMark four() {
        return text("# a", "# b", "# c", "# d");
    }

    private void readingBegins() {
        sentence("Reading begins with the first line of the last top block that begins ahead of this line");
        WeaveMark mark = four();
        reads("the first line has none ahead", mark, 1, () -> set(mark, 0, "# x"));
        reads("the block that begins at the line is not ahead", mark, 2, () -> set(mark, 1, "# x"));
        reads("the last line", mark, 2, () -> set(mark, 3, "# x"));
        WeaveMark block = text("a", "b", "c", "", "", "# d");
        reads("within a block", block, 5, () -> set(block, 1, "x"));
        reads("the last line of a block", block, 5, () -> set(block, 2, "x"));
        reads("behind a block", block, 5, () -> set(block, 4, ""));
        reads("at the next block", block, 6, () -> set(block, 5, "# x"));
        reads("one line behind its first", block, 2, () -> insert(block, 6, "# y"));
        sentence("or with the first line of the text without one");
        WeaveMark blank = empty(3);
        reads("no block at all", blank, 3, () -> set(blank, 1, ""));
        reads("the first block", blank, 3, () -> set(blank, 2, "# a"));
        reads("at the first line", blank, 2, () -> set(blank, 0, ""));
        reads("a block ahead", blank, 2, () -> insert(blank, 3, "# b"));
    }

    private void readingEnds() {
        sentence("ends ahead of the first line behind the edited one");
        WeaveMark mark = four();
        reads("not at the edited line", mark, 2, () -> set(mark, 1, "# x"));
        reads("nor at the one put in", mark, 2, () -> insert(mark, 1, "# y"));
        reads("put in at first", mark, 1, () -> insert(mark, 0, "# z"));
        reads("put in at last", mark, 2, () -> insert(mark, 6, "# e"));
        reads("a blank line put in", mark, 2, () -> insert(mark, 1, ""));
        same("all stand", written(mark), "<h1>z</h1><h1>a</h1><h1>y</h1><h1>x</h1><h1>c</h1><h1>d</h1><h1>e</h1>");
        sentence("or with the text");
        WeaveMark last = text("# a", "b", "c");
        reads("the last block", last, 2, () -> set(last, 2, "x"));
        reads("the last block from its first line", last, 3, () -> set(last, 1, "x"));
        reads("behind it", last, 3, () -> insert(last, 3, ""));
    }

    private void readingEndsWhereBothBegin() {
        sentence("at which a top block begins, while one began at the same line, moved by the edit, ahead of the edit, too");
        WeaveMark now = text("- a", "  # b", "# c");
        reads("it begins only now", now, 2, () -> set(now, 0, "# a"));
        same("and does", kindsOf(now), "h0 h1 h2");
        reads("it began only ahead of the edit", now, 2, () -> set(now, 0, "- a"));
        same("and does not", kindsOf(now), "u0 h2");
        WeaveMark code = four();
        reads("none begins any more", code, 4, () -> set(code, 0, "```"));
        reads("none began", code, 4, () -> set(code, 0, "# a"));
        // blank lines between the blocks tell a moved line from one that is not
        WeaveMark moved = text("# a", "", "", "# b", "# c");
        reads("moved down", moved, 1, () -> insert(moved, 0, "# x"));
        same("begins", kindsOf(moved), "h0 h1 h4 h5");
        reads("moved down from behind", moved, 4, () -> insert(moved, 2, ""));
        same("begins", kindsOf(moved), "h0 h1 h5 h6");
        reads("moved up", moved, 3, () -> moved.removeLine(2));
        same("begins", kindsOf(moved), "h0 h1 h4 h5");
        WeaveMark below = text("a", "b", "", "c");
        reads("what began at the line put in", below, 1, () -> insert(below, 0, "# x"));
        reads("split", below, 4, () -> insert(below, 2, "# y"));
        same("begins", kindsOf(below), "h0 p1 h2 p3 p5");
    }

    private void readingOfRemoved() {
        sentence("or from its place on if it was taken out");
        WeaveMark mark = four();
        reads("the first", mark, 0, () -> mark.removeLine(0));
        reads("the second", mark, 1, () -> mark.removeLine(1));
        reads("the last", mark, 1, () -> mark.removeLine(1));
        reads("the only one", mark, 0, () -> mark.removeLine(0));
        WeaveMark other = text("a", "", "b", "# c");
        reads("joined", other, 2, () -> other.removeLine(1));
        same("begins", kindsOf(other), "p0 h2");
        WeaveMark code = text("```", "# a", "```", "# b");
        reads("the closing row", code, 3, () -> code.removeLine(2));
        reads("the opening row", code, 2, () -> code.removeLine(0));
        same("begins", kindsOf(code), "h0 h1");
    }

    private void countedReading() {
        sentence("how many lines the last edit read");
        WeaveMark mark = new WeaveMark();
        same("0 without an edit", mark.readLast(), 0);
        same("and in all", mark.read(), 0);
        type(mark, "# a");
        same("typing is none", mark.readLast(), 0);
        mark.addLine();
        same("1 line", mark.readLast(), 1);
        throwing("a refused edit", NO_PLACE, () -> mark.removeLine(1));
        same("is none", mark.readLast(), 1);
        add(mark, "# b");
        mark.removeLine(0);
        same("an edit that reads no line", mark.readLast(), 0);
        same("in all", mark.read(), 3);
        // each line is read with all ahead of it, as all are one block
        WeaveMark most = new WeaveMark();
        for (int line = 1; line <= 24; line++) {
            add(most, "a");
            same("lines of the block", most.readLast(), line);
        }
        same("in all", most.read(), 300);
        sentence("Lines ahead of that and from there on are not read again");
        same("all were", most.keptShare(), 0f);
        WeaveMark heads = heads(24);
        same("two an edit", heads.read(), 47);
        same("the rest was kept", heads.keptShare(), 253f / 300f);
    }

    /** Blocks that an edit does not read stay what they were, wherever they are moved. */
    private void keptBlocks() {
        sentence("Lines ahead of that and from there on are not read again");
        WeaveMark mark = text("a", "", "b", "", "c", "", "d");
        set(mark, 0, "x");
        same("the first block", mark.readLast(), 2);
        set(mark, 6, "y");
        same("the last block", mark.readLast(), 3);
        same("all stand", written(mark), "<p>x</p><p>b</p><p>c</p><p>y</p>");
        WeaveMark deep = text("# a", "- b", "  - > c", "> d", "", "> - e", ">", "> - f");
        String kept = "<u><i>b<u><i><q><p>c</p></q></i></u></i></u><q><p>d</p></q>"
            + "<q><u><i><p>e</p></i><i><p>f</p></i></u></q>";
        reads("more blocks ahead", deep, 1, () -> set(deep, 0, ">> a"));
        same("they stay", written(deep), "<q><q><p>a</p></q></q>" + kept);
        same("their depth", deep.depth(), 3);
        reads("fewer blocks ahead", deep, 1, () -> set(deep, 0, ""));
        same("they stay", written(deep), kept);
        same("their places", kindsOf(deep), "u1 q3 q5");
        reads("a line less", deep, 0, () -> deep.removeLine(0));
        same("they stay", shown(deep, deep.write()), kept);
        same("their places", kindsOf(deep), "u0 q2 q4");
        same("the loose one", deep.looseLists(), 1);
    }
}
