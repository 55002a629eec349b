import java.util.Arrays;

/**
 * A markup engine for texts of lines. The tree of blocks is kept through edits; an edit reads again
 * only from the top block ahead of it to the next top block that begins where one began before.
 */
public final class WeaveMark {

    private static final int MOST_LINES = 24;
    private static final int MOST_SIGNS = 40;
    /** No node, no label, no row: also the parent of the top blocks. */
    private static final int NONE = -1;
    private static final char NO_SIGN = 0;
    private static final char BLANK = ' ';
    private static final char END_OF_LINE = 10;
    private static final char GONE = '-';

    private final Text text;
    private final char[] buffer;
    private int typed;
    /** The tree of the text, and the one that the next edit builds from it. */
    private Tree kept;
    private Tree spare;
    private final Reader reader;
    private final Labels labels;
    private final Writer writer;
    /** What was written last; the other pages are for answers that must leave it as it is. */
    private final Page shown;
    private final Page aside;
    private final Page anew;
    private int readInAll;
    private int readByLast;
    private int seenInAll;

    public WeaveMark() {
        text = new Text();
        buffer = new char[MOST_SIGNS];
        kept = new Tree();
        spare = new Tree();
        reader = new Reader(text, kept);
        labels = new Labels(text);
        shown = new Page();
        aside = new Page();
        anew = new Page();
        writer = new Writer(text, labels, kept, shown);
    }

    // ---- lines

    public int type(char character) throws IllegalArgumentException, IllegalStateException {
        if (character < BLANK || character > '~') {
            throw new IllegalArgumentException("no such character");
        }
        if (typed >= buffer.length) {
            throw new IllegalStateException("the buffer is full");
        }
        buffer[typed] = character;
        typed++;
        return typed;
    }

    public int addLine() throws IllegalStateException {
        if (text.isFull()) {
            throw new IllegalStateException("the text is full");
        }
        text.putIn(text.size(), buffer, typed);
        typed = 0;
        readAgain(text.size() - 1, 1);
        return text.size();
    }

    public int insertLine(int line) throws IndexOutOfBoundsException, IllegalStateException {
        if (line < 0 || line > text.size()) {
            throw new IndexOutOfBoundsException("no such place");
        }
        if (text.isFull()) {
            throw new IllegalStateException("the text is full");
        }
        text.putIn(line, buffer, typed);
        typed = 0;
        readAgain(line, 1);
        return text.size();
    }

    public int setLine(int line) throws IndexOutOfBoundsException {
        if (line < 0 || line >= text.size()) {
            throw new IndexOutOfBoundsException("no such line");
        }
        int before = text.lengthOf(line);
        text.replace(line, buffer, typed);
        typed = 0;
        readAgain(line, 0);
        return before;
    }

    public int removeLine(int line) throws IndexOutOfBoundsException {
        if (line < 0 || line >= text.size()) {
            throw new IndexOutOfBoundsException("no such line");
        }
        text.takeOut(line);
        readAgain(line, -1);
        return text.size();
    }

    public int lines() {
        return text.size();
    }

    public int read() {
        return readInAll;
    }

    public int readLast() {
        return readByLast;
    }

    // ---- blocks

    public int tops() {
        return kept.topCount();
    }

    public int beginOf(int top) throws IndexOutOfBoundsException {
        if (top < 0 || top >= kept.topCount()) {
            throw new IndexOutOfBoundsException("no such block");
        }
        return kept.topLine(top);
    }

    public char kindOf(int top) throws IndexOutOfBoundsException {
        if (top < 0 || top >= kept.topCount()) {
            throw new IndexOutOfBoundsException("no such block");
        }
        return kept.kind(kept.topNode(top));
    }

    public int count(char kind) throws IllegalArgumentException {
        if (!isCounted(kind)) {
            throw new IllegalArgumentException("no such kind");
        }
        return kept.countKind(kind);
    }

    public int depth() {
        return kept.deepest();
    }

    public int looseLists() {
        return kept.countLoose();
    }

    public int headings() {
        return kept.countKind('h');
    }

    public int levelOf(int heading) throws IndexOutOfBoundsException {
        if (heading < 0 || heading >= kept.countKind('h')) {
            throw new IndexOutOfBoundsException("no such heading");
        }
        return kept.get(kept.nodeOfKind('h', heading), Tree.VALUE);
    }

    public int definitions() {
        labels.collect(kept);
        return labels.goalCount();
    }

    public int notes() {
        labels.collect(kept);
        return labels.noteCount();
    }

    public int usedNotes() {
        writer.fill(kept, aside, NONE);
        return labels.usedCount();
    }

    // ---- writing

    public int write() {
        return writer.fill(kept, shown, NONE);
    }

    public int writeTop(int top) throws IndexOutOfBoundsException {
        if (top < 0 || top >= kept.topCount()) {
            throw new IndexOutOfBoundsException("no such block");
        }
        // the notes get their numbers from the whole text, so this is written first
        writer.fill(kept, aside, NONE);
        return writer.fill(kept, shown, top);
    }

    public int writeAnew() {
        readWhole();
        return writer.fill(spare, shown, NONE);
    }

    public char charAt(int index) throws IndexOutOfBoundsException {
        if (index < 0 || index >= shown.size()) {
            throw new IndexOutOfBoundsException("no such character");
        }
        return shown.at(index);
    }

    public int links() {
        writer.fill(kept, aside, NONE);
        return writer.linkCount();
    }

    public float keptShare() throws ArithmeticException {
        if (seenInAll == 0) {
            throw new ArithmeticException("no lines behind any edit");
        }
        return (float) (seenInAll - readInAll) / (float) seenInAll;
    }

    public double meanLength() throws ArithmeticException {
        if (text.size() == 0) {
            throw new ArithmeticException("no lines");
        }
        return (double) text.lengthSum() / (double) text.size();
    }

    public boolean isSound() {
        readWhole();
        writer.fill(kept, aside, NONE);
        writer.fill(spare, anew, NONE);
        return aside.isSameAs(anew) && kept.topsRise();
    }

    // ---- edits

    private static boolean isCounted(char kind) {
        switch (kind) {
            case 'p':
            case 'h':
            case 'q':
            case 'u':
            case 'o':
            case 'r':
            case 'c':
            case 't':
            case 'i':
                return true;
            default:
                return false;
        }
    }

    /**
     * Builds the tree behind an edit: top blocks that it cannot reach are taken over, the lines
     * between them are read. A top block begins with nothing open, so what is read from its line on
     * does not depend on the lines ahead of it.
     *
     * @param shift by how many lines the edit moved what is behind it
     */
    private void readAgain(int line, int shift) {
        int first = Math.max(0, kept.topsAheadOf(line) - 1);
        int start = kept.topsAheadOf(line) > 0 ? kept.topLine(first) : 0;
        int behind = shift < 0 ? line : line + 1;
        spare.clear();
        spare.takeOver(kept, 0, first, 0);
        reader.start(spare);
        int stop = start;
        boolean met = false;
        while (stop < text.size() && !met) {
            reader.takeLine(stop);
            met = stop >= behind && spare.beginsLastAt(stop) && kept.beginsAt(stop - shift);
            if (!met) {
                stop++;
            }
        }
        if (met) {
            // its beginning has ended all ahead of it; the block itself is taken over instead
            spare.cutLast();
        } else {
            reader.finish();
        }
        spare.takeOver(kept, kept.topsAheadOf(stop - shift), kept.topCount(), shift);
        Tree built = spare;
        spare = kept;
        kept = built;
        readByLast = stop - start;
        readInAll += readByLast;
        seenInAll += text.size();
    }

    /** Reads all lines into the spare tree, which no answer needs between two edits. */
    private void readWhole() {
        spare.clear();
        reader.start(spare);
        for (int line = 0; line < text.size(); line++) {
            reader.takeLine(line);
        }
        reader.finish();
    }

    /** The lines, in one row of characters, so that an edit makes nothing new. */
    private static final class Text {
        private final char[] signs = new char[MOST_LINES * MOST_SIGNS];
        private final int[] lengths = new int[MOST_LINES];
        private int size;

        int size() {
            return size;
        }

        boolean isFull() {
            return size >= MOST_LINES;
        }

        /** The row of characters that holds all lines; a line begins in it at its startOf. */
        char[] row() {
            return signs;
        }

        int startOf(int line) {
            return line * MOST_SIGNS;
        }

        int lengthOf(int line) {
            return line >= 0 && line < lengths.length ? lengths[line] : 0;
        }

        int lengthSum() {
            int sum = 0;
            for (int length : lengths) {
                sum += length;
            }
            return sum;
        }

        /** The character, or NO_SIGN outside the line, so that looking around needs no bounds. */
        char at(int line, int column) {
            if (line < 0 || line >= lengths.length || column < 0 || column >= lengths[line]) {
                return NO_SIGN;
            }
            int index = line * MOST_SIGNS + column;
            return index < signs.length ? signs[index] : NO_SIGN;
        }

        /** The first column from this one on that has no blank, or the length. */
        int pastBlanks(int line, int from) {
            int column = from;
            while (column < lengthOf(line) && at(line, column) == BLANK) {
                column++;
            }
            return column;
        }

        /** The end of what is left of [from, limit) without the blanks at its end. */
        int withoutBlanks(int line, int from, int limit) {
            int end = limit;
            while (end > from && at(line, end - 1) == BLANK) {
                end--;
            }
            return end;
        }

        /** The first column from this one on that has another sign, or the limit. */
        int pastSame(int line, int from, int limit) {
            int column = from;
            while (column < limit && at(line, column) == at(line, from)) {
                column++;
            }
            return column;
        }

        boolean has(char sign, int line, int from, int limit) {
            for (int column = from; column < limit; column++) {
                if (at(line, column) == sign) {
                    return true;
                }
            }
            return false;
        }

        void putIn(int line, char[] typed, int length) {
            if (line < 0 || line > size || isFull()) {
                return;
            }
            for (int moved = size; moved > line; moved--) {
                copyLine(moved - 1, moved);
            }
            size++;
            replace(line, typed, length);
        }

        void takeOut(int line) {
            if (line < 0 || line >= size) {
                return;
            }
            for (int moved = line; moved < size - 1; moved++) {
                copyLine(moved + 1, moved);
            }
            size--;
            if (size < lengths.length) {
                lengths[size] = 0;
            }
        }

        void replace(int line, char[] typed, int length) {
            if (line < 0 || line >= lengths.length || length < 0 || length > typed.length || length > MOST_SIGNS) {
                return;
            }
            System.arraycopy(typed, 0, signs, line * MOST_SIGNS, length);
            lengths[line] = length;
        }

        private void copyLine(int from, int to) {
            if (from < 0 || from >= lengths.length || to < 0 || to >= lengths.length) {
                return;
            }
            System.arraycopy(signs, from * MOST_SIGNS, signs, to * MOST_SIGNS, MOST_SIGNS);
            lengths[to] = lengths[from];
        }
    }

    /**
     * The blocks as nodes of numbers, in the order of their reading, which is also the order of
     * writing: a node stands behind its parent, and a top block with all in it is one stretch.
     */
    private static final class Tree {
        static final int KIND = 0;
        static final int PARENT = 1;
        /** The last block in it. */
        static final int LAST = 2;
        /** Its first line, and the last one that is not empty and adds to it. */
        static final int BEGIN = 3;
        static final int END = 4;
        /** The lines of a leaf's text; those of a paragraph ahead of them are its definitions. */
        static final int TEXT = 5;
        static final int LIMIT = 6;
        /** A heading's level, a list's first number, an item's width, code's row, a table's cells. */
        static final int VALUE = 7;
        /** The sign that a list is made of. */
        static final int SIGN = 8;
        static final int LOOSE = 9;
        private static final int FIELDS = 10;

        private int[] fields = new int[FIELDS * 8];
        private int size;
        private final int[] tops = new int[MOST_LINES];
        private int topCount;
        /** Where each line's text begins and ends: a line belongs to one leaf at most. */
        private final int[] froms = new int[MOST_LINES];
        private final int[] limits = new int[MOST_LINES];

        void clear() {
            size = 0;
            topCount = 0;
        }

        int size() {
            return size;
        }

        int get(int node, int field) {
            int index = node * FIELDS + field;
            return node >= 0 && node < size && index < fields.length ? fields[index] : NONE;
        }

        void set(int node, int field, int value) {
            int index = node * FIELDS + field;
            if (node >= 0 && node < size && index < fields.length) {
                fields[index] = value;
            }
        }

        char kind(int node) {
            return (char) get(node, KIND);
        }

        int fromOf(int line) {
            return line >= 0 && line < froms.length ? froms[line] : 0;
        }

        int limitOf(int line) {
            return line >= 0 && line < limits.length ? limits[line] : 0;
        }

        void setText(int line, int from, int limit) {
            if (line >= 0 && line < froms.length && line < limits.length) {
                froms[line] = from;
                limits[line] = limit;
            }
        }

        int topCount() {
            return topCount;
        }

        int topNode(int top) {
            return top >= 0 && top < topCount && top < tops.length ? tops[top] : size;
        }

        int topLine(int top) {
            return get(topNode(top), BEGIN);
        }

        int topsAheadOf(int line) {
            int top = 0;
            while (top < topCount && topLine(top) < line) {
                top++;
            }
            return top;
        }

        boolean beginsAt(int line) {
            int top = topsAheadOf(line);
            return top < topCount && topLine(top) == line;
        }

        boolean beginsLastAt(int line) {
            return topCount > 0 && topLine(topCount - 1) == line;
        }

        boolean topsRise() {
            for (int top = 1; top < topCount; top++) {
                if (topLine(top) <= topLine(top - 1)) {
                    return false;
                }
            }
            return true;
        }

        int lastIn(int parent) {
            if (parent != NONE) {
                return get(parent, LAST);
            }
            return topCount > 0 ? topNode(topCount - 1) : NONE;
        }

        int add(char kind, int parent, int line) {
            int before = lastIn(parent);
            if (before != NONE && line > get(before, END) + 1) {
                loosen(parent);
            }
            int node = addEmpty();
            set(node, KIND, kind);
            set(node, PARENT, parent);
            set(node, LAST, NONE);
            set(node, BEGIN, line);
            set(node, END, line);
            set(node, TEXT, line);
            set(node, LIMIT, line);
            hang(node, parent);
            return node;
        }

        private int addEmpty() {
            if (fields.length < (size + 1) * FIELDS) {
                fields = Arrays.copyOf(fields, fields.length * 2);
            }
            size++;
            for (int field = 0; field < FIELDS; field++) {
                set(size - 1, field, 0);
            }
            return size - 1;
        }

        private void hang(int node, int parent) {
            if (parent != NONE) {
                set(parent, LAST, node);
            } else if (topCount < tops.length) {
                tops[topCount] = node;
                topCount++;
            }
        }

        /** An empty line is ahead of the next block in this; a quote is marked, too, but never asked. */
        private void loosen(int parent) {
            int list = get(parent, KIND) == 'i' ? get(parent, PARENT) : parent;
            set(list, LOOSE, 1);
        }

        boolean isList(int node) {
            int kind = get(node, KIND);
            return kind == 'u' || kind == 'o';
        }

        /** A line adds to a block and to all that have it; a parent stands ahead of its node. */
        void extend(int node, int line) {
            int reached = node;
            for (int most = size; most > 0 && reached >= 0; most--) {
                set(reached, END, line);
                reached = get(reached, PARENT);
            }
        }

        /** Paragraphs right in an item of a list that is not loose are written bare. */
        boolean isBare(int node) {
            int item = get(node, PARENT);
            return kind(node) == 'p' && kind(item) == 'i' && get(get(item, PARENT), LOOSE) == 0;
        }

        int countKind(char kind) {
            int found = 0;
            for (int node = 0; node < size; node++) {
                if (kind(node) == kind) {
                    found++;
                }
            }
            return found;
        }

        int nodeOfKind(char kind, int number) {
            int ahead = 0;
            for (int node = 0; node < size; node++) {
                if (kind(node) == kind) {
                    if (ahead == number) {
                        return node;
                    }
                    ahead++;
                }
            }
            return NONE;
        }

        int countLoose() {
            int found = 0;
            for (int node = 0; node < size; node++) {
                if (isList(node) && get(node, LOOSE) != 0) {
                    found++;
                }
            }
            return found;
        }

        int deepest() {
            int deepest = 0;
            for (int node = 0; node < size; node++) {
                deepest = Math.max(deepest, depthOf(node));
            }
            return deepest;
        }

        private int depthOf(int node) {
            int depth = 0;
            int reached = node;
            for (int most = size; most > 0 && reached >= 0; most--) {
                if (kind(reached) == 'q' || kind(reached) == 'i') {
                    depth++;
                }
                reached = get(reached, PARENT);
            }
            return depth;
        }

        /** Takes the last top block away again, with all in it. */
        void cutLast() {
            if (topCount > 0) {
                size = topNode(topCount - 1);
                topCount--;
            }
        }

        /** Puts top blocks of another tree behind those of this one, their lines moved. */
        void takeOver(Tree other, int first, int limit, int shift) {
            for (int top = first; top < limit; top++) {
                int from = other.topNode(top);
                int move = size - from;
                hang(size, NONE);
                for (int node = from; node < other.topNode(top + 1); node++) {
                    takeNode(other, node, move, shift);
                }
                for (int line = other.get(from, BEGIN); line <= other.get(from, END); line++) {
                    setText(line + shift, other.fromOf(line), other.limitOf(line));
                }
            }
        }

        private void takeNode(Tree other, int from, int move, int shift) {
            int node = addEmpty();
            for (int field = 0; field < FIELDS; field++) {
                int value = other.get(from, field);
                boolean isNode = field == PARENT || field == LAST;
                boolean isLine = field >= BEGIN && field <= LIMIT;
                if (isNode && value != NONE) {
                    value += move;
                } else if (isLine) {
                    value += shift;
                }
                set(node, field, value);
            }
        }
    }

    /** The parts of a line that defines a label, by the one rule that reading and looking up share. */
    private static final class Definition {
        private final Text text;
        private boolean isNote;
        private int labelFrom;
        private int labelLimit;
        private int goalFrom;
        private int goalLimit;

        Definition(Text text) {
            this.text = text;
        }

        boolean fits(int line, int from, int limit) {
            isNote = text.at(line, from + 1) == '^';
            labelFrom = isNote ? from + 2 : from + 1;
            labelLimit = bracketFrom(line, limit);
            if (text.at(line, from) != '[' || text.at(line, labelLimit) != ']' || text.at(line, labelLimit + 1) != ':') {
                return false;
            }
            goalFrom = text.pastBlanks(line, labelLimit + 2);
            goalLimit = text.withoutBlanks(line, labelLimit + 2, limit);
            if (text.pastBlanks(line, labelFrom) >= labelLimit || goalFrom >= goalLimit) {
                return false;
            }
            return isNote || !text.has(BLANK, line, goalFrom, goalLimit);
        }

        private int bracketFrom(int line, int limit) {
            int column = labelFrom;
            while (column < limit && text.at(line, column) != '[' && text.at(line, column) != ']') {
                column++;
            }
            return column;
        }
    }

    /** The cells of one row of a table, gone through from the left to the right. */
    private static final class Cells {
        private final Text text;
        private int line;
        private int place;
        private int limit;
        private boolean more;
        private int from;
        private int end;

        Cells(Text text) {
            this.text = text;
        }

        void start(int row, int rowFrom, int rowLimit) {
            line = row;
            place = text.pastBlanks(row, rowFrom);
            limit = text.withoutBlanks(row, place, rowLimit);
            more = true;
            if (place < limit && isBar(place)) {
                place++;
            }
            if (place < limit && isBar(limit - 1)) {
                limit--;
            }
        }

        /** Goes to the next cell; behind the last one all are empty, as rows are filled up so. */
        boolean next() {
            int bar = place;
            while (bar < limit && !isBar(bar)) {
                bar++;
            }
            boolean found = more;
            from = Math.min(text.pastBlanks(line, place), bar);
            end = text.withoutBlanks(line, from, bar);
            more = bar < limit;
            place = more ? bar + 1 : limit;
            return found;
        }

        /** A cell of the line below a table's head: '-' alone, a ':' at either end aside. */
        boolean isDashes() {
            int dashes = text.at(line, from) == ':' ? from + 1 : from;
            int dashesEnd = dashes < end && text.at(line, end - 1) == ':' ? end - 1 : end;
            return dashes < dashesEnd && text.at(line, dashes) == '-'
                && text.pastSame(line, dashes, dashesEnd) == dashesEnd;
        }

        private boolean isBar(int column) {
            return text.at(line, column) == '|' && text.at(line, column - 1) != '\\';
        }
    }

    /** Reads lines one behind the other into a tree. */
    private static final class Reader {
        /** Each open quote or item took a character of some line, so no more can be open. */
        private static final int MOST_OPEN = MOST_SIGNS + 1;
        private static final char NOTHING = 0;

        private final Text text;
        private final Cells cells;
        private final Definition definition;
        private Tree tree;
        private final int[] open = new int[MOST_OPEN];
        private int openCount;
        private int leaf;
        private int line;
        /** The place that is reached, and the text of the rest behind it. */
        private int place;
        private int first;
        private int last;
        private int met;
        private boolean begun;
        /** The innermost block that the line adds to, or NONE if it is empty. */
        private int touched;
        /** What the line that begins a block tells about it. */
        private char sign;
        private int number;
        private int width;
        private int textFrom;

        Reader(Text text, Tree tree) {
            this.text = text;
            this.tree = tree;
            cells = new Cells(text);
            definition = new Definition(text);
        }

        void start(Tree goal) {
            tree = goal;
            openCount = 0;
            leaf = NONE;
        }

        void finish() {
            endLeaf();
            openCount = 0;
        }

        void takeLine(int next) {
            line = next;
            place = 0;
            begun = false;
            touched = NONE;
            meetOpen();
            if (met == openCount && leafIs('c')) {
                takeCode();
            } else {
                char kind = beginning();
                for (int guard = 0; guard < MOST_OPEN && (kind == 'q' || kind == 'i'); guard++) {
                    endForNew();
                    beginContainer(kind);
                    kind = beginning();
                }
                if (kind == NOTHING) {
                    takeRest();
                } else if (kind == '=' || kind == 't') {
                    turnParagraph(kind);
                } else {
                    endForNew();
                    beginLeaf(kind);
                }
            }
            tree.extend(touched, line);
        }

        private boolean leafIs(char kind) {
            return leaf != NONE && tree.kind(leaf) == kind;
        }

        private int innermost() {
            return openCount > 0 && openCount <= open.length ? open[openCount - 1] : NONE;
        }

        // -- what stays open

        private void meetOpen() {
            met = 0;
            while (met < openCount && met < open.length && stays(open[met])) {
                met++;
            }
        }

        private boolean stays(int node) {
            int solid = text.pastBlanks(line, place);
            if (tree.kind(node) == 'q') {
                if (text.at(line, solid) != '>') {
                    return false;
                }
                passQuote(solid);
                return true;
            }
            int wanted = tree.get(node, Tree.VALUE);
            if (solid - place >= wanted) {
                place += wanted;
                return true;
            }
            return solid >= text.lengthOf(line) && tree.get(node, Tree.LAST) != NONE;
        }

        private void passQuote(int mark) {
            place = text.at(line, mark + 1) == BLANK ? mark + 2 : mark + 1;
        }

        private void findRest() {
            first = text.pastBlanks(line, place);
            last = text.withoutBlanks(line, first, text.lengthOf(line));
        }

        private void takeCode() {
            findRest();
            touched = leaf;
            boolean isRow = text.at(line, first) == '`' && text.pastSame(line, first, last) == last;
            if (isRow && last - first >= tree.get(leaf, Tree.VALUE)) {
                leaf = NONE;
                return;
            }
            tree.setText(line, place, text.lengthOf(line));
            tree.set(leaf, Tree.LIMIT, line + 1);
        }

        // -- what begins

        private char beginning() {
            findRest();
            if (first >= last) {
                return NOTHING;
            }
            char ahead = text.at(line, first);
            boolean goesOn = met == openCount && !begun && leafIs('p');
            if (goesOn && isUnderline(ahead)) {
                return '=';
            }
            if (ahead == '>') {
                return 'q';
            }
            if (isRule(ahead)) {
                return 'r';
            }
            if (isItem(goesOn)) {
                return 'i';
            }
            if (isHeading()) {
                return 'h';
            }
            if (isFence()) {
                return 'c';
            }
            return goesOn && isTable() ? 't' : NOTHING;
        }

        private boolean isUnderline(char ahead) {
            return (ahead == '=' || ahead == '-') && text.pastSame(line, first, last) == last;
        }

        private boolean isRule(char ahead) {
            if (ahead != '-' && ahead != '*' && ahead != '_') {
                return false;
            }
            int found = 0;
            for (int column = first; column < last; column++) {
                if (text.at(line, column) == ahead) {
                    found++;
                } else if (text.at(line, column) != BLANK) {
                    return false;
                }
            }
            return found >= 3;
        }

        private boolean isItem(boolean goesOn) {
            int behind = pastItemSign();
            boolean isAlone = behind >= last;
            if (behind == first || !isAlone && text.at(line, behind) != BLANK) {
                return false;
            }
            if (goesOn && (isAlone || sign == '.' && number != 1)) {
                return false;
            }
            int blanks = text.pastBlanks(line, behind) - behind;
            if (isAlone || blanks > 4) {
                blanks = 1;
            }
            width = behind - place + blanks;
            return true;
        }

        /** The column behind the sign or number of an item, or the first one if there is none. */
        private int pastItemSign() {
            number = 0;
            sign = text.at(line, first);
            if (sign == '-' || sign == '+' || sign == '*') {
                return first + 1;
            }
            int column = first;
            while (column < first + 4 && isDigit(text.at(line, column))) {
                number = number * 10 + text.at(line, column) - '0';
                column++;
            }
            sign = '.';
            return column > first && text.at(line, column) == '.' ? column + 1 : first;
        }

        private boolean isHeading() {
            if (text.at(line, first) != '#') {
                return false;
            }
            int behind = text.pastSame(line, first, last);
            number = behind - first;
            if (number > 6 || behind < last && text.at(line, behind) != BLANK) {
                return false;
            }
            textFrom = Math.min(text.pastBlanks(line, behind), last);
            int row = last;
            while (row > textFrom && text.at(line, row - 1) == '#') {
                row--;
            }
            if (row == textFrom || text.at(line, row - 1) == BLANK) {
                last = text.withoutBlanks(line, textFrom, row);
            }
            return true;
        }

        private boolean isFence() {
            if (text.at(line, first) != '`') {
                return false;
            }
            int behind = text.pastSame(line, first, last);
            number = behind - first;
            return number >= 3 && !text.has('`', line, behind, last);
        }

        private boolean isTable() {
            int head = tree.get(leaf, Tree.TEXT);
            if (tree.get(leaf, Tree.LIMIT) != head + 1 || !text.has('|', line, first, last)) {
                return false;
            }
            int headFrom = tree.fromOf(head);
            int headLimit = tree.limitOf(head);
            if (!text.has('|', head, headFrom, headLimit)) {
                return false;
            }
            number = 0;
            cells.start(line, first, last);
            while (number <= MOST_SIGNS && cells.next()) {
                if (!cells.isDashes()) {
                    return false;
                }
                number++;
            }
            int inHead = 0;
            cells.start(head, headFrom, headLimit);
            while (inHead <= MOST_SIGNS && cells.next()) {
                inHead++;
            }
            return inHead == number;
        }

        /** Only the innermost may have an open leaf: what begins ends it, met or not. */
        private void endForNew() {
            endLeaf();
            openCount = met;
            begun = true;
        }

        private void endLeaf() {
            if (leafIs('p')) {
                int limit = tree.get(leaf, Tree.LIMIT);
                int row = tree.get(leaf, Tree.TEXT);
                while (row < limit && definition.fits(row, tree.fromOf(row), tree.limitOf(row))) {
                    row++;
                }
                tree.set(leaf, Tree.TEXT, row);
                if (row >= limit) {
                    tree.set(leaf, Tree.KIND, GONE);
                }
            }
            leaf = NONE;
        }

        private void beginContainer(char kind) {
            int around = innermost();
            if (kind == 'q') {
                touched = tree.add('q', around, line);
                passQuote(first);
            } else {
                touched = tree.add('i', listFor(around), line);
                tree.set(touched, Tree.VALUE, width);
                place = Math.min(place + width, text.lengthOf(line));
            }
            if (openCount < open.length) {
                open[openCount] = touched;
                openCount++;
            }
            met = openCount;
        }

        private int listFor(int around) {
            int before = tree.lastIn(around);
            if (tree.isList(before) && tree.get(before, Tree.SIGN) == sign) {
                return before;
            }
            int list = tree.add(sign == '.' ? 'o' : 'u', around, line);
            tree.set(list, Tree.SIGN, sign);
            tree.set(list, Tree.VALUE, number);
            return list;
        }

        private void beginLeaf(char kind) {
            touched = tree.add(kind, innermost(), line);
            tree.set(touched, Tree.VALUE, kind == 'r' ? 0 : number);
            if (kind == 'h') {
                tree.setText(line, textFrom, last);
                tree.set(touched, Tree.LIMIT, line + 1);
            } else if (kind == 'c') {
                tree.set(touched, Tree.TEXT, line + 1);
                tree.set(touched, Tree.LIMIT, line + 1);
                leaf = touched;
            }
        }

        /** The open paragraph turns out to be a heading, or the head of a table. */
        private void turnParagraph(char kind) {
            touched = leaf;
            if (kind == 't') {
                tree.set(leaf, Tree.KIND, 't');
                tree.set(leaf, Tree.VALUE, number);
                tree.set(leaf, Tree.LIMIT, line + 1);
            } else {
                tree.set(leaf, Tree.KIND, 'h');
                tree.set(leaf, Tree.VALUE, text.at(line, first) == '=' ? 1 : 2);
                leaf = NONE;
            }
        }

        // -- what goes on

        private void takeRest() {
            boolean isBlank = first >= last;
            boolean goesOnLazily = !isBlank && !begun && leafIs('p');
            if (met < openCount && !goesOnLazily) {
                endLeaf();
                openCount = met;
            }
            if (isBlank) {
                // a paragraph or table: open code that is met has taken the line already
                endLeaf();
                return;
            }
            // only a next line has its blanks kept: a first line and one added lazily are the text alone
            boolean keepsBlanks = leafIs('p') && met == openCount;
            if (!leafIs('p') && !leafIs('t')) {
                leaf = tree.add('p', innermost(), line);
            }
            touched = leaf;
            tree.setText(line, first, keepsBlanks ? text.lengthOf(line) : last);
            tree.set(leaf, Tree.LIMIT, line + 1);
        }
    }

    /** The labels that are defined, each by the first of its definitions, and the notes' numbers. */
    private static final class Labels {
        private final Text text;
        private final Definition definition;
        /** The labels in the form in which they are compared, a stretch of MOST_SIGNS for each. */
        private final char[] names = new char[MOST_LINES * MOST_SIGNS];
        private final int[] lengths = new int[MOST_LINES];
        private final boolean[] areNotes = new boolean[MOST_LINES];
        private final int[] lines = new int[MOST_LINES];
        private final int[] froms = new int[MOST_LINES];
        private final int[] limits = new int[MOST_LINES];
        private final int[] numbers = new int[MOST_LINES];
        private int size;
        private int noteCount;
        private int usedCount;
        private final char[] wanted = new char[MOST_SIGNS];
        private int wantedLength;

        Labels(Text text) {
            this.text = text;
            definition = new Definition(text);
        }

        int goalCount() {
            return size - noteCount;
        }

        int noteCount() {
            return noteCount;
        }

        int usedCount() {
            return usedCount;
        }

        void collect(Tree tree) {
            size = 0;
            noteCount = 0;
            usedCount = 0;
            for (int node = 0; node < tree.size(); node++) {
                if (tree.kind(node) == 'p' || tree.kind(node) == GONE) {
                    collectFrom(tree, node);
                }
            }
        }

        private void collectFrom(Tree tree, int node) {
            for (int line = tree.get(node, Tree.BEGIN); line < tree.get(node, Tree.TEXT); line++) {
                if (definition.fits(line, tree.fromOf(line), tree.limitOf(line))) {
                    define(line);
                }
            }
        }

        private void define(int line) {
            int start = text.startOf(line);
            int from = start + definition.labelFrom;
            int limit = start + definition.labelLimit;
            if (find(text.row(), from, limit, definition.isNote) != NONE || size >= MOST_LINES) {
                return;
            }
            System.arraycopy(wanted, 0, names, size * MOST_SIGNS, wantedLength);
            lengths[size] = wantedLength;
            areNotes[size] = definition.isNote;
            lines[size] = line;
            froms[size] = definition.goalFrom;
            limits[size] = definition.goalLimit;
            numbers[size] = 0;
            size++;
            if (definition.isNote) {
                noteCount++;
            }
        }

        /** The number of the label that stands in a row of characters right behind a '[' or "[^". */
        int find(char[] row, int from, int limit, boolean isNote) {
            boolean hasMark = from >= 0 && from < row.length && row[from] == '^';
            if (!isNote && hasMark || !want(row, from, limit)) {
                return NONE;
            }
            for (int label = 0; label < size && label < areNotes.length; label++) {
                if (areNotes[label] == isNote && isWanted(label)) {
                    return label;
                }
            }
            return NONE;
        }

        /** Puts a label into the form that is compared; false if it cannot be one of a line. */
        private boolean want(char[] row, int rowFrom, int rowLimit) {
            int from = Math.max(0, rowFrom);
            int limit = Math.min(rowLimit, row.length);
            while (from < limit && (row[from] == BLANK || row[from] == END_OF_LINE)) {
                from++;
            }
            while (from < limit && (row[limit - 1] == BLANK || row[limit - 1] == END_OF_LINE)) {
                limit--;
            }
            wantedLength = limit - from;
            if (wantedLength <= 0 || wantedLength > wanted.length) {
                wantedLength = 0;
                return false;
            }
            for (int index = 0; index < wantedLength; index++) {
                char given = row[from + index];
                if (given == END_OF_LINE) {
                    given = BLANK;
                } else if (given >= 'A' && given <= 'Z') {
                    given = (char) (given - 'A' + 'a');
                }
                wanted[index] = given;
            }
            return true;
        }

        private boolean isWanted(int label) {
            if (label < 0 || label >= lengths.length || lengths[label] != wantedLength) {
                return false;
            }
            int start = label * MOST_SIGNS;
            for (int index = 0; index < wantedLength && index < wanted.length; index++) {
                if (start + index >= names.length || names[start + index] != wanted[index]) {
                    return false;
                }
            }
            return true;
        }

        int lineOf(int label) {
            return label >= 0 && label < size && label < lines.length ? lines[label] : NONE;
        }

        int fromOf(int label) {
            return label >= 0 && label < size && label < froms.length ? froms[label] : 0;
        }

        int limitOf(int label) {
            return label >= 0 && label < size && label < limits.length ? limits[label] : 0;
        }

        /** The number of a note, which it gets now if it is used for the first time. */
        int use(int label) {
            if (label < 0 || label >= size || label >= numbers.length) {
                return 0;
            }
            if (numbers[label] == 0) {
                usedCount++;
                numbers[label] = usedCount;
            }
            return numbers[label];
        }

        int withNumber(int number) {
            for (int label = 0; label < size && label < numbers.length; label++) {
                if (numbers[label] == number) {
                    return label;
                }
            }
            return NONE;
        }
    }

    /** Rows of '*' and '_', and what becomes of their signs as they are paired. */
    private static final class Rows {
        private static final int FRONT = 0;
        private static final int BACK = 1;
        private static final int LENGTH = 2;
        private static final int SIGN = 3;
        private static final int OPENS = 4;
        private static final int CLOSES = 5;
        private static final int FIELDS = 6;

        private int[] fields = new int[FIELDS * 8];
        private int size;

        int size() {
            return size;
        }

        /** Rows from this one on are settled and take no part any more. */
        void cutTo(int base) {
            if (base >= 0 && base < size) {
                size = base;
            }
        }

        private int get(int row, int field) {
            int index = row * FIELDS + field;
            return row >= 0 && row < size && index < fields.length ? fields[index] : 0;
        }

        private void set(int row, int field, int value) {
            int index = row * FIELDS + field;
            if (row >= 0 && row < size && index < fields.length) {
                fields[index] = value;
            }
        }

        private int left(int row) {
            return get(row, BACK) - get(row, FRONT);
        }

        void add(char sign, int from, int limit, boolean opens, boolean closes) {
            if (fields.length < (size + 1) * FIELDS) {
                fields = Arrays.copyOf(fields, fields.length * 2);
            }
            size++;
            int row = size - 1;
            set(row, FRONT, from);
            set(row, BACK, limit);
            set(row, LENGTH, limit - from);
            set(row, SIGN, sign);
            set(row, OPENS, opens ? 1 : 0);
            set(row, CLOSES, closes ? 1 : 0);
        }

        /** Pairs the rows from this one on among themselves, and settles them so. */
        void pair(int base, int[] marks) {
            for (int closer = base; closer < size; closer++) {
                int opener = openerFor(closer, base);
                for (int most = left(closer); most > 0 && opener != NONE; most--) {
                    join(opener, closer, marks);
                    opener = openerFor(closer, base);
                }
            }
            cutTo(base);
        }

        private int openerFor(int closer, int base) {
            if (get(closer, CLOSES) == 0 || left(closer) <= 0) {
                return NONE;
            }
            for (int opener = closer - 1; opener >= base; opener--) {
                if (get(opener, OPENS) != 0 && left(opener) > 0 && isPair(opener, closer)) {
                    return opener;
                }
            }
            return NONE;
        }

        private boolean isPair(int opener, int closer) {
            if (get(opener, SIGN) != get(closer, SIGN)) {
                return false;
            }
            boolean doesBoth = get(opener, CLOSES) != 0 || get(closer, OPENS) != 0;
            int sum = get(opener, LENGTH) + get(closer, LENGTH);
            return !doesBoth || sum % 3 != 0 || get(opener, LENGTH) % 3 == 0;
        }

        /** Inner signs go first: the opener's from its end, the closer's from its beginning. */
        private void join(int opener, int closer, int[] marks) {
            int length = left(opener) >= 2 && left(closer) >= 2 ? 2 : 1;
            int letter = length == 2 ? 's' : 'e';
            int back = get(opener, BACK) - length;
            int front = get(closer, FRONT);
            for (int index = 0; index < length; index++) {
                if (back + index >= 0 && front + index >= 0 && back + index < marks.length && front + index < marks.length) {
                    marks[back + index] = index == 0 ? letter : Runs.LEFT_OUT;
                    marks[front + index] = index == 0 ? -letter : Runs.LEFT_OUT;
                }
            }
            set(opener, BACK, back);
            set(closer, FRONT, front + length);
            for (int between = opener + 1; between < closer; between++) {
                set(between, OPENS, 0);
                set(between, CLOSES, 0);
            }
        }
    }

    /**
     * The runs of one text: each character gets a mark that says what is written in its place, a
     * letter for the beginning of what has this letter, the letter below 0 for its end.
     */
    private static final class Runs {
        static final int PLAIN = 0;
        static final int LEFT_OUT = 1;
        static final int AS_BLANK = 2;

        /** What a bracket that may open is: it is taken off as it is looked at. */
        private static final int LINK = 0;
        private static final int PICTURE = 1;
        private static final int SWITCHED_OFF = 2;

        private final Labels labels;
        private final Rows rows = new Rows();
        private char[] signs = new char[64];
        private int[] marks = new int[64];
        /** For a link's or note's bracket, the label, or the place of the '(' as a number below 0. */
        private int[] targets = new int[64];
        private int length;
        private int[] brackets = new int[8];
        private int[] bracketStates = new int[8];
        private int[] bracketRows = new int[8];
        private int bracketCount;
        /** The first of the rows in the text of a link or picture that was just found, or NONE. */
        private int linkRows;

        Runs(Labels labels) {
            this.labels = labels;
        }

        int size() {
            return length;
        }

        char sign(int index) {
            return index >= 0 && index < length && index < signs.length ? signs[index] : NO_SIGN;
        }

        int mark(int index) {
            return index >= 0 && index < length && index < marks.length ? marks[index] : LEFT_OUT;
        }

        int target(int index) {
            return index >= 0 && index < length && index < targets.length ? targets[index] : NONE;
        }

        private void put(int index, int mark) {
            if (index >= 0 && index < length && index < marks.length) {
                marks[index] = mark;
            }
        }

        private void leaveOut(int from, int limit) {
            for (int index = from; index < limit; index++) {
                put(index, LEFT_OUT);
            }
        }

        private void aim(int index, int target) {
            if (index >= 0 && index < length && index < targets.length) {
                targets[index] = target;
            }
        }

        // -- the text

        void clear() {
            length = 0;
        }

        /** Puts a piece of a line behind the text, as a line of its own if there is one already. */
        void gather(Text text, int line, int from, int limit) {
            if (length > 0) {
                gatherSign(END_OF_LINE);
            }
            for (int column = from; column < limit; column++) {
                gatherSign(text.at(line, column));
            }
        }

        private void gatherSign(char sign) {
            int room = Math.min(signs.length, Math.min(marks.length, targets.length));
            if (length >= room) {
                char[] wider = new char[room * 2];
                System.arraycopy(signs, 0, wider, 0, room);
                signs = wider;
                // marks and targets are made anew for each text, so nothing of them is kept
                marks = new int[room * 2];
                targets = new int[room * 2];
            }
            if (length < signs.length) {
                signs[length] = sign;
                length++;
            }
        }

        // -- the runs

        void find() {
            bracketCount = 0;
            rows.cutTo(0);
            for (int index = 0; index < length; index++) {
                put(index, PLAIN);
            }
            int at = 0;
            while (at < length) {
                int next = at + 1;
                switch (sign(at)) {
                    case '\\':
                        next = passEscape(at);
                        break;
                    case END_OF_LINE:
                        next = passEndOfLine(at);
                        break;
                    case '`':
                        next = passCode(at);
                        break;
                    case '!':
                    case '[':
                        next = passOpening(at);
                        break;
                    case ']':
                        linkRows = NONE;
                        next = passClosing(at);
                        if (linkRows != NONE) {
                            rows.pair(linkRows, marks);
                        }
                        break;
                    case '*':
                    case '_':
                        next = passRow(at);
                        break;
                    default:
                        break;
                }
                at = Math.max(next, at + 1);
            }
            rows.pair(0, marks);
        }

        private int pastSame(int at) {
            int end = at;
            while (end < length && sign(end) == sign(at)) {
                end++;
            }
            return end;
        }

        private int passEscape(int at) {
            if (sign(at + 1) == END_OF_LINE) {
                put(at, LEFT_OUT);
                put(at + 1, 'b');
                return passBlanks(at + 2);
            }
            if (isSign(sign(at + 1))) {
                put(at, LEFT_OUT);
                return at + 2;
            }
            return at + 1;
        }

        private int passEndOfLine(int at) {
            int from = at;
            while (from > 0 && sign(from - 1) == BLANK) {
                from--;
            }
            leaveOut(from, at);
            if (at - from >= 2) {
                put(at, 'b');
            }
            return passBlanks(at + 1);
        }

        private int passBlanks(int at) {
            int end = at;
            while (end < length && sign(end) == BLANK) {
                end++;
            }
            leaveOut(at, end);
            return end;
        }

        private int passCode(int at) {
            int from = pastSame(at);
            int row = from;
            while (row < length) {
                boolean isRow = sign(row) == '`';
                int end = isRow ? Math.max(pastSame(row), row + 1) : row + 1;
                if (isRow && end - row == from - at) {
                    markCode(from, row);
                    leaveOut(at, from);
                    put(at, 'k');
                    leaveOut(row, end);
                    put(row, -'k');
                    return end;
                }
                row = end;
            }
            return from;
        }

        private void markCode(int from, int limit) {
            boolean hasSolid = false;
            for (int index = from; index < limit; index++) {
                if (sign(index) == END_OF_LINE) {
                    put(index, AS_BLANK);
                } else if (sign(index) != BLANK) {
                    hasSolid = true;
                }
            }
            if (hasSolid && isBlankInCode(from) && isBlankInCode(limit - 1)) {
                put(from, LEFT_OUT);
                put(limit - 1, LEFT_OUT);
            }
        }

        private boolean isBlankInCode(int index) {
            return sign(index) == BLANK || sign(index) == END_OF_LINE;
        }

        private int passOpening(int at) {
            boolean isPicture = sign(at) == '!';
            if (isPicture && sign(at + 1) != '[') {
                return at + 1;
            }
            int room = Math.min(brackets.length, Math.min(bracketStates.length, bracketRows.length));
            if (bracketCount >= room) {
                brackets = Arrays.copyOf(brackets, room * 2);
                bracketStates = Arrays.copyOf(bracketStates, room * 2);
                bracketRows = Arrays.copyOf(bracketRows, room * 2);
            }
            int bracket = isPicture ? at + 1 : at;
            if (bracketCount < brackets.length && bracketCount < bracketStates.length && bracketCount < bracketRows.length) {
                brackets[bracketCount] = bracket;
                bracketStates[bracketCount] = isPicture ? PICTURE : LINK;
                bracketRows[bracketCount] = rows.size();
                bracketCount++;
            }
            return bracket + 1;
        }

        private int passClosing(int at) {
            if (bracketCount <= 0 || bracketCount > brackets.length || bracketCount > bracketStates.length
                || bracketCount > bracketRows.length) {
                return at + 1;
            }
            bracketCount--;
            int bracket = brackets[bracketCount];
            int state = bracketStates[bracketCount];
            int base = bracketRows[bracketCount];
            if (state == SWITCHED_OFF) {
                return at + 1;
            }
            if (state == LINK && sign(bracket + 1) == '^') {
                int note = labels.find(signs, bracket + 2, at, true);
                if (note != NONE) {
                    leaveOut(bracket, at + 1);
                    put(bracket, 'n');
                    aim(bracket, note);
                    rows.cutTo(base);
                    return at + 1;
                }
            }
            int behind = aimBracket(bracket, at);
            if (behind > at) {
                linkRows = base;
                markLink(bracket, at, behind, state == PICTURE);
                return behind;
            }
            return at + 1;
        }

        /** Looks for the goal of what is between two brackets: the place behind it, or at if none. */
        private int aimBracket(int bracket, int at) {
            int end = at + 2;
            if (sign(at + 1) == '(') {
                while (end < length && sign(end) != BLANK && sign(end) != '(' && sign(end) != ')') {
                    end++;
                }
                if (sign(end) == ')') {
                    aim(bracket, -(at + 1) - 1);
                    return end + 1;
                }
            }
            boolean hasSecond = false;
            if (sign(at + 1) == '[') {
                end = at + 2;
                while (end < length && sign(end) != '[' && sign(end) != ']') {
                    end++;
                }
                hasSecond = sign(end) == ']';
            }
            int label = hasSecond ? labels.find(signs, at + 2, end, false) : NONE;
            if (label != NONE) {
                aim(bracket, label);
                return end + 1;
            }
            label = labels.find(signs, bracket + 1, at, false);
            aim(bracket, label);
            if (label == NONE) {
                return at;
            }
            return hasSecond && end == at + 2 ? end + 1 : at + 1;
        }

        private void markLink(int bracket, int at, int behind, boolean isPicture) {
            int letter = isPicture ? 'm' : 'a';
            put(bracket, letter);
            put(at, -letter);
            leaveOut(at + 1, behind);
            if (isPicture) {
                put(bracket - 1, LEFT_OUT);
                return;
            }
            for (int index = 0; index < bracketCount && index < bracketStates.length; index++) {
                if (bracketStates[index] == LINK) {
                    bracketStates[index] = SWITCHED_OFF;
                }
            }
        }

        private int passRow(int at) {
            int end = pastSame(at);
            char ahead = sign(at - 1);
            char behind = sign(end);
            boolean opens = !isGap(behind) && (!isSign(behind) || isSign(ahead) || isGap(ahead));
            boolean closes = !isGap(ahead) && (!isSign(ahead) || isSign(behind) || isGap(behind));
            if (sign(at) == '_' && opens && closes) {
                opens = isSign(ahead);
                closes = isSign(behind);
            }
            rows.add(sign(at), at, end, opens, closes);
            return end;
        }
    }

    private static boolean isDigit(char character) {
        return character >= '0' && character <= '9';
    }

    private static boolean isSign(char character) {
        boolean isLetter = character >= 'a' && character <= 'z' || character >= 'A' && character <= 'Z';
        return character > BLANK && character <= '~' && !isLetter && !isDigit(character);
    }

    /** A blank, an end of line, or the beginning or end of the text. */
    private static boolean isGap(char character) {
        return character == BLANK || character == END_OF_LINE || character == NO_SIGN;
    }

    /** Written characters; the row grows with the longest text and is used again. */
    private static final class Page {
        private char[] signs = new char[64];
        private int size;

        int size() {
            return size;
        }

        void clear() {
            size = 0;
        }

        char at(int index) {
            return index >= 0 && index < size && index < signs.length ? signs[index] : NO_SIGN;
        }

        void put(char character) {
            if (size >= signs.length) {
                char[] wider = new char[signs.length * 2];
                System.arraycopy(signs, 0, wider, 0, signs.length);
                signs = wider;
            }
            if (size < signs.length) {
                signs[size] = character;
                size++;
            }
        }

        /** Puts a character of the text, so that it can't be taken for a beginning or an end. */
        void putOfText(char character) {
            if (character == '<') {
                put('&');
                put('l');
            } else if (character == '&') {
                put('&');
                put('a');
            } else {
                put(character);
            }
        }

        /** Puts a number below 10000, as are all of items and notes. */
        void putNumber(int number) {
            for (int unit = 1000; unit > 0; unit /= 10) {
                if (number >= unit || unit == 1) {
                    put((char) ('0' + number / unit % 10));
                }
            }
        }

        boolean isSameAs(Page other) {
            if (size != other.size()) {
                return false;
            }
            for (int index = 0; index < size; index++) {
                if (at(index) != other.at(index)) {
                    return false;
                }
            }
            return true;
        }
    }

    /** Writes a tree, or one top block of it, to a page. */
    private static final class Writer {
        private final Text text;
        private final Labels labels;
        private final Runs runs;
        private final Cells cells;
        private Tree tree;
        private Page page;
        private int linkCount;

        Writer(Text text, Labels labels, Tree tree, Page page) {
            this.text = text;
            this.labels = labels;
            this.tree = tree;
            this.page = page;
            runs = new Runs(labels);
            cells = new Cells(text);
        }

        int linkCount() {
            return linkCount;
        }

        /**
         * Writes all of a tree with the notes if the top block is NONE, else this one alone, with
         * the numbers of notes as they were when all was written.
         */
        int fill(Tree source, Page goal, int top) {
            tree = source;
            page = goal;
            page.clear();
            linkCount = 0;
            if (top == NONE) {
                labels.collect(tree);
            }
            int first = top == NONE ? 0 : tree.topNode(top);
            int limit = top == NONE ? tree.size() : tree.topNode(top + 1);
            int around = NONE;
            for (int node = first; node < limit; node++) {
                around = endUpTo(around, tree.get(node, Tree.PARENT));
                beginBlock(node);
                switch (tree.kind(node)) {
                    case 'p':
                    case 'h':
                        fillLines(node);
                        break;
                    case 'c':
                        fillCode(node);
                        break;
                    case 't':
                        fillTable(node);
                        break;
                    default:
                        break;
                }
                around = node;
            }
            endUpTo(around, NONE);
            if (top == NONE) {
                fillNotes();
            }
            return page.size();
        }

        /** Ends blocks from the inside until the next one's parent is reached, or all are ended. */
        private int endUpTo(int node, int parent) {
            int around = node;
            for (int most = tree.size(); most > 0 && around > parent; most--) {
                endBlock(around);
                around = tree.get(around, Tree.PARENT);
            }
            return around;
        }

        private boolean isWritten(int node) {
            return tree.kind(node) != GONE && !tree.isBare(node);
        }

        private void beginBlock(int node) {
            char kind = tree.kind(node);
            if (isWritten(node)) {
                page.put('<');
                page.put(kind);
                if (kind == 'h' || kind == 'o') {
                    page.putNumber(tree.get(node, Tree.VALUE));
                }
                page.put('>');
            }
        }

        private void endBlock(int node) {
            char kind = tree.kind(node);
            if (isWritten(node) && kind != 'r') {
                page.put('<');
                page.put('/');
                page.put(kind);
                if (kind == 'h') {
                    page.putNumber(tree.get(node, Tree.VALUE));
                }
                page.put('>');
            }
        }

        private void begin(char letter) {
            page.put('<');
            page.put(letter);
            page.put('>');
        }

        private void end(char letter) {
            page.put('<');
            page.put('/');
            page.put(letter);
            page.put('>');
        }

        private void fillLines(int node) {
            runs.clear();
            for (int line = tree.get(node, Tree.TEXT); line < tree.get(node, Tree.LIMIT); line++) {
                runs.gather(text, line, tree.fromOf(line), tree.limitOf(line));
            }
            runs.find();
            putRuns();
        }

        private void fillCode(int node) {
            for (int line = tree.get(node, Tree.TEXT); line < tree.get(node, Tree.LIMIT); line++) {
                putText(line, tree.fromOf(line), tree.limitOf(line));
                page.put(END_OF_LINE);
            }
        }

        private void fillTable(int node) {
            int head = tree.get(node, Tree.TEXT);
            for (int line = head; line < tree.get(node, Tree.LIMIT); line++) {
                if (line == head + 1) {
                    // the line below the head tells the cells and is none of the rows
                    continue;
                }
                begin('w');
                cells.start(line, tree.fromOf(line), tree.limitOf(line));
                for (int cell = 0; cell < tree.get(node, Tree.VALUE); cell++) {
                    cells.next();
                    begin('d');
                    runs.clear();
                    runs.gather(text, line, cells.from, cells.end);
                    runs.find();
                    putRuns();
                    end('d');
                }
                end('w');
            }
        }

        /** Notes that are first used in notes come behind the others, so the count may rise here. */
        private void fillNotes() {
            for (int number = 1; number <= labels.usedCount() && number <= MOST_LINES; number++) {
                int label = labels.withNumber(number);
                page.put('<');
                page.put('f');
                page.putNumber(number);
                page.put('>');
                runs.clear();
                runs.gather(text, labels.lineOf(label), labels.fromOf(label), labels.limitOf(label));
                runs.find();
                putRuns();
                end('f');
            }
        }

        private void putRuns() {
            for (int index = 0; index < runs.size(); index++) {
                int mark = runs.mark(index);
                if (mark == Runs.PLAIN) {
                    page.putOfText(runs.sign(index));
                } else if (mark == Runs.AS_BLANK) {
                    page.put(BLANK);
                } else if (mark < 0) {
                    end((char) -mark);
                } else if (mark != Runs.LEFT_OUT) {
                    beginRun((char) mark, runs.target(index));
                }
            }
        }

        private void beginRun(char letter, int target) {
            page.put('<');
            page.put(letter);
            if (letter == 'n') {
                page.putNumber(labels.use(target));
            } else if (letter == 'a' || letter == 'm') {
                linkCount++;
                page.put(BLANK);
                if (target >= 0) {
                    putText(labels.lineOf(target), labels.fromOf(target), labels.limitOf(target));
                } else {
                    putInlineGoal(-target);
                }
            }
            page.put('>');
        }

        private void putInlineGoal(int from) {
            int index = from;
            while (index < runs.size() && runs.sign(index) != ')') {
                page.putOfText(runs.sign(index));
                index++;
            }
        }

        private void putText(int line, int from, int limit) {
            for (int column = from; column < limit; column++) {
                page.putOfText(text.at(line, column));
            }
        }
    }
}
