/**
 * The sentences of the document's Terms on lines, blocks, cells, loose lists and definitions that name a
 * boundary: on the bound, one below it and one above it.
 */
public final class BlockBoundsTest extends Checks {

    public static void main(String[] args) {
        BlockBoundsTest test = new BlockBoundsTest();
        test.mostLines();
        test.mostCharacters();
        test.characters();
        test.blankLines();
        test.topBlocks();
        test.quotesThatStay();
        test.itemsThatStay();
        test.codeThatGoesOn();
        test.firstThatFits();
        test.underlines();
        test.quotesThatBegin();
        test.rules();
        test.itemsThatBegin();
        test.itemsBehindParagraphs();
        test.widthsOfItems();
        test.listsOfItems();
        test.headings();
        test.headingTexts();
        test.codeThatBegins();
        test.tablesThatBegin();
        test.cellsOfDashes();
        test.whatEnds();
        test.blankRests();
        test.lazyLines();
        test.nextLines();
        test.cells();
        test.rowsOfTables();
        test.emptyLines();
        test.looseLists();
        test.endsOfDefinitions();
        test.goals();
        test.notes();
        test.labels();
        test.sameLabels();
        test.goneParagraphs();
        test.close("BlockBoundsTest");
    }

    private static String blanks(int number) {
        return " ".repeat(number);
    }

    private void definitions(int due, String... lines) {
        same("definitions of\n" + String.join("\n", lines), text(lines).definitions(), due);
    }

    private void noteLabels(int due, String... lines) {
        same("notes of\n" + String.join("\n", lines), text(lines).notes(), due);
    }

    private void loose(int due, String... lines) {
        same("loose lists of\n" + String.join("\n", lines), text(lines).looseLists(), due);
    }

    // ---- lines

    private void mostLines() {
        sentence("A text has at most 24 lines, numbered from 0");
        WeaveMark mark = empty(22);
        same("the 23rd", mark.addLine(), 23);
        same("the 24th", mark.addLine(), 24);
        throwing("the 25th behind the text", IllegalStateException.class, mark::addLine);
        throwing("the 25th ahead of it", IllegalStateException.class, () -> mark.insertLine(0));
        same("one less", mark.removeLine(0), 23);
        same("the 24th again", mark.insertLine(23), 24);
        throwing("and no more", IllegalStateException.class, () -> mark.insertLine(24));
        type(mark, "z");
        same("the last line has the number 23", mark.setLine(23), 0);
        throwing("none has 24", IndexOutOfBoundsException.class, () -> mark.setLine(24));
        same("24 lines are written", written(mark), "<p>z</p>");
        type(mark, "a");
        same("the first one has 0", mark.setLine(0), 0);
        same("it begins there", kindsOf(mark), "p0 p23");
        String[] many = new String[24];
        java.util.Arrays.fill(many, "x");
        writes("<p>" + "x\n".repeat(23) + "x</p>", many);
        java.util.Arrays.fill(many, "[^a]: b");
        many[23] = "[^z]: b";
        noteLabels(2, many);
        java.util.Arrays.fill(many, "# h");
        same("each can be a block", text(many).tops(), 24);
    }

    private void mostCharacters() {
        sentence("each with at most 40 characters");
        String most = "a".repeat(39) + "z";
        WeaveMark mark = new WeaveMark();
        type(mark, most.substring(1));
        same("a line of 39", mark.addLine(), 1);
        type(mark, most.substring(1));
        same("the 40th", mark.type('z'), 40);
        throwing("the 41st", IllegalStateException.class, () -> mark.type('z'));
        same("a line of 40", mark.setLine(0), 39);
        same("it is whole", written(mark), "<p>" + "a".repeat(38) + "zz</p>");
        same("and has 40", mark.setLine(0), 40);
        type(mark, most);
        mark.insertLine(0);
        same("put in, too", written(mark), "<p>" + most + "</p>");
        same("and has 40", mark.setLine(0), 40);
        writes("<c>" + most + "\n</c>", "```", most);
    }

    private void characters() {
        sentence("characters from 32 to 126");
        for (char sign = 32; sign <= 126; sign++) {
            String due = sign == '<' ? "&l" : sign == '&' ? "&a" : String.valueOf(sign);
            writes("<c>x" + due + "\n</c>", "```", "x" + sign);
        }
        WeaveMark mark = new WeaveMark();
        throwing("31", IllegalArgumentException.class, () -> mark.type((char) 31));
        throwing("127", IllegalArgumentException.class, () -> mark.type((char) 127));
        same("32", mark.type((char) 32), 1);
        same("126", mark.type((char) 126), 2);
        for (int first = 127; first < 65536; first += 400) {
            WeaveMark other = new WeaveMark();
            for (int sign = first; sign < Math.min(65536, first + 400); sign++) {
                char character = (char) sign;
                throwing("the character " + sign, IllegalArgumentException.class, () -> other.type(character));
            }
        }
        for (int sign = 0; sign < 32; sign++) {
            char character = (char) sign;
            throwing("the character " + sign, IllegalArgumentException.class, () -> mark.type(character));
        }
        same("none of them was taken", mark.type('a'), 3);
    }

    private void blankLines() {
        sentence("A blank line has blanks alone, or nothing");
        for (int number : new int[] {0, 1, 39, 40}) {
            writes("<p>a</p><p>b</p>", "a", blanks(number), "b");
        }
        writes("<p>a\nx\nb</p>", "a", blanks(39) + "x", "b");
        writes("", blanks(40));
        writes("");
        sentence("its text is the rest without blanks ahead of it and behind it");
        writes("<p>x</p>", "x");
        writes("<p>x</p>", " x ");
        writes("<p>x</p>", blanks(39) + "x");
        writes("<p>x</p>", "x" + blanks(39));
        writes("<p>x  y</p>", "  x  y  ");
    }

    private void topBlocks() {
        sentence("A block of the text itself is a top block");
        tops("q0", "> - a", ">   # b", "> 1. c");
        tops("u0", "- > a");
        tops("", "");
        tops("");
        tops("p0", "a");
        tops("h0 h1", "# a", "# b");
    }

    // ---- what stays open

    private void quotesThatStay() {
        sentence("A quote stays if the text of the rest begins with a '>'");
        writes("<q><c>x\n</c></q>", "> ```", "> x");
        writes("<q><c>x\n</c></q>", "> ```", blanks(37) + "> x");
        writes("<q><c>\n</c></q>", "> ```", blanks(39) + ">");
        writes("<q><c></c></q><p>x</p>", "> ```", "x");
        writes("<q><c></c></q><p>x ></p>", "> ```", "x >");
        writes("<q><c></c></q>", "> ```", "");
        writes("<q><q><c>x\n</c></q></q>", ">> ```", " >   > x");
        writes("<q><q><c></c></q><p>x</p></q>", ">> ```", "> x");
        sentence("the place is then behind it, and behind one blank behind it, if there is one");
        writes("<q><c>x\nx\n x\n\n\n \n</c></q>", "> ```", ">x", "> x", ">  x", ">", "> ", ">  ");
    }

    private void itemsThatStay() {
        sentence("An item with the width w stays if the rest is blank and the item has a block already");
        writes("<u><i><c>\nx\n</c></i></u>", "- ```", "", "  x");
        writes("<u><i><p>a</p><p>b</p></i></u>", "- a", "", "  b");
        writes("<u><i><p>a</p><p>b</p></i></u>", "- a", "", "", "", "  b");
        writes("<u><i></i></u><p>a</p>", "-", "", "  a");
        writes("<u><i></i></u><p>a</p>", "- ", "", "  a");
        writes("<u><i><q></q><p>a</p></i></u>", "- >", "", "  a");
        writes("<u><i><r><p>a</p></i></u>", "- ***", "", "  a");
        writes("<u><i><u><i></i></u><p>a</p></i></u>", "- -", "", "  a");
        sentence("or if the rest begins with w blanks or more, and the place is then behind w of them");
        writes("<u><i><c></c></i></u><p>x</p>", "- ```", " x");
        writes("<u><i><c>x\n</c></i></u>", "- ```", "  x");
        writes("<u><i><c> x\n</c></i></u>", "- ```", "   x");
        writes("<u><i><c>\n</c></i></u>", "- ```", "  ");
        writes("<u><i><c> \n</c></i></u>", "- ```", "   ");
        writes("<u><i></i></u><p>a</p>", "-", " ", "  a");
        writes("<u><i>a</i></u>", "-", "  ", "  a");
        writes("<u><i>a</i></u>", "-", "   ", "  a");
        writes("<o12><i><c></c></i></o><p>x</p>", "12. ```", "   x");
        writes("<o12><i><c>x\n</c></i></o>", "12. ```", "    x");
        writes("<u><i><u><i><c></c></i></u></i></u><p>x</p>", "- - ```", " x");
        writes("<u><i><u><i><c></c></i></u>x</i></u>", "- - ```", "   x");
        writes("<u><i><u><i><c>x\n</c></i></u></i></u>", "- - ```", "    x");
        sentence("The first one that does not stay, and all within it, are not met");
        writes("<q><u><i><c></c></i></u></q><p>x</p>", "> - ```", "  x");
        writes("<q><u><i><q><c></c></q></i></u><q><p>x</p></q></q>", "> - > ```", "> > x");
        writes("<u><i><q><u><i><c></c></i></u></q>x</i></u>", "- > - ```", "      x");
    }

    private void codeThatGoesOn() {
        sentence("a rest whose text is '`' alone, as many as those that began it or more, ends the code");
        writes("<c>``\n</c>", "```", "``");
        writes("<c></c><p>x</p>", "```", "```", "x");
        writes("<c></c><p>x</p>", "```", "````", "x");
        writes("<c>```\n</c><p>x</p>", "````", "```", "````", "x");
        writes("<c></c><p>x</p>", "````", "`````", "x");
        writes("<c></c><p>x</p>", "```", "`".repeat(40), "x");
        writes("<c>" + "`".repeat(39) + "\n</c><p>x</p>", "`".repeat(40), "`".repeat(39), "`".repeat(40), "x");
        writes("<c></c><p>x</p>", "```", "   ```  ", "x");
        writes("<c>   ```  \n</c>", "````", "   ```  ");
        writes("<c>``` x\nx```\n` ``\n</c>", "```", "``` x", "x```", "` ``");
        sentence("any other rest is a line of it as it is; that is all of this line");
        writes("<c>  x  \n> b\n- c\n# d\n\n \n---\n</c>", "```", "  x  ", "> b", "- c", "# d", "", " ", "---");
        writes("<c></c>", "```");
        sentence("if all are met and code is open");
        writes("<q><c></c></q><h1>a</h1>", "> ```", "# a");
        writes("<q><c></c></q><c></c>", "> ```", "```");
        writes("<q><c></c><p>x</p></q>", "> ```", "> ```", "> x");
    }

    // ---- what begins

    private void firstThatFits() {
        sentence("by the first of these that fits the text of the rest");
        writes("<h2>a</h2>", "a", "---");
        writes("<r>", "---");
        writes("<q><p>a</p></q><r>", "> a", "---");
        writes("<r>", "- - -");
        writes("<r>", "* * *");
        writes("<r><u><i>a</i></u>", "* * *", "* a");
        writes("<p>a|b</p><u><i>| -</i></u>", "a|b", "- | -");
        writes("<t><w><d>a</d><d>b</d></w></t>", "a|b", "-- | --");
        writes("<h2>a|</h2>", "a|", "-");
        sentence("Else the line is looked at for beginnings, as long as there is one");
        writes("<q><u><i><o1><i><h2>a</h2></i></o></i></u></q>", "> - 1. ## a");
        writes("<q><u><i><r></i></u></q>", "> - ***");
        writes("<h1>> a</h1>", "# > a");
        writes("<c></c>", "``` > a");
    }

    private void underlines() {
        sentence("one '=' or more alone, or one '-' or more alone");
        writes("<h1>a</h1>", "a", "=");
        writes("<h1>a</h1>", "a", "==");
        writes("<h1>a</h1>", "a", "=".repeat(40));
        writes("<h2>a</h2>", "a", "-");
        writes("<h2>a</h2>", "a", "--");
        writes("<h2>a</h2>", "a", "-".repeat(40));
        writes("<h2>a</h2>", "a", "  ---  ");
        writes("<p>a\n= =</p>", "a", "= =");
        writes("<p>a\n==x</p>", "a", "==x");
        writes("<p>a\n=-</p>", "a", "=-");
        writes("<p>a\n-=</p>", "a", "-=");
        writes("<p>a</p><u><i><u><i></i></u></i></u>", "a", "- -");
        sentence("if all are met, nothing has begun in this line and a paragraph is open");
        writes("<q><h1>a</h1></q>", "> a", "> =");
        writes("<q><p>a\n=</p></q>", "> a", "=");
        writes("<q><p>a\n--</p></q>", "> a", "--");
        writes("<p>a</p><q><p>=</p></q>", "a", "> =");
        writes("<u><i>a<q><p>=</p></q></i></u>", "- a", "  > =");
        writes("<p>=</p>", "=");
        writes("<p>a</p><p>=</p>", "a", "", "=");
        writes("<h1>a</h1><p>=</p>", "a", "=", "=");
        writes("<h1>a</h1><p>=</p>", "# a", "=");
        writes("<t><w><d>a</d></w><w><d>=</d></w></t>", "a|", "-|", "=");
        sentence("this becomes a heading of the level 1 or 2; that is all");
        same("level of =", text("a", "=").levelOf(0), 1);
        same("level of -", text("a", "-").levelOf(0), 2);
        writes("<h1>a\nb</h1><p>c</p>", "a", "b", "=", "c");
    }

    private void quotesThatBegin() {
        sentence("'>' begins a quote; the place is behind it, and behind one blank behind it, if there is one");
        writes("<q></q>", ">");
        writes("<q></q>", blanks(39) + ">");
        writes("<q><p>a</p></q>", ">a");
        writes("<p>a></p>", "a>");
        writes("<p>a</p><q></q>", "a", ">");
        // an item's width tells how many blanks were left behind the place
        writes("<q><u><i><c>x\n</c></i></u></q>", ">- ```", ">   x");
        writes("<q><u><i><c>x\n</c></i></u></q>", "> - ```", ">   x");
        writes("<q><u><i><c></c></i></u><p>x</p></q>", ">  - ```", ">   x");
        writes("<q><u><i><c>x\n</c></i></u></q>", ">  - ```", ">    x");
        writes("<q>".repeat(40) + "</q>".repeat(40), ">".repeat(40));
    }

    private void rules() {
        sentence("three or more of the same of '-', '*' and '_', and blanks; that is all");
        for (String sign : new String[] {"-", "*", "_"}) {
            writes("<r>", sign.repeat(3));
            writes("<r>", sign.repeat(4));
            writes("<r>", sign.repeat(40));
            writes("<r><p>x</p>", "  " + sign + "  " + sign + sign + " ", "x");
            writes("<p>" + sign.repeat(2) + "</p>", sign.repeat(2));
            writes("<p>" + sign.repeat(3) + "x</p>", sign.repeat(3) + "x");
        }
        writes("<r>", "- - -");
        writes("<u><i><u><i></i></u></i></u>", "- -");
        writes("<r>", "* * *");
        writes("<u><i><u><i></i></u></i></u>", "* *");
        writes("<p>_ _</p>", "_ _");
        writes("<p>--*</p>", "--*");
        writes("<p>**-</p>", "**-");
        writes("<p>==_</p>", "==_");
        writes("<p>+++</p>", "+++");
        writes("<p>a</p><r>", "a", "***");
        writes("<p>a</p><r>", "a", "- - -");
        tops("p0 r1 p2", "a", "___", "b");
    }

    private void itemsThatBegin() {
        sentence("'-', '+' or '*', or 1 to 4 digits and a '.', and behind that a blank or nothing");
        for (String sign : new String[] {"-", "+", "*"}) {
            writes("<u><i></i></u>", sign);
            writes("<u><i></i></u>", sign + " ");
            writes("<u><i>a</i></u>", sign + " a");
            writes("<u><i>a</i></u>", blanks(37) + sign + " a");
            writes("<p>" + sign + "a</p>", sign + "a");
        }
        writes("<p>.</p>", ".");
        writes("<p>. a</p>", ". a");
        writes("<o1><i></i></o>", "1.");
        writes("<o1><i>a</i></o>", "1. a");
        writes("<o12><i>a</i></o>", "12. a");
        writes("<o123><i>a</i></o>", "123. a");
        writes("<o1234><i>a</i></o>", "1234. a");
        writes("<p>12345. a</p>", "12345. a");
        writes("<p>00001. a</p>", "00001. a");
        writes("<p>1.a</p>", "1.a");
        writes("<p>1 . a</p>", "1 . a");
        writes("<p>1</p>", "1");
        writes("<p>1) a</p>", "1) a");
        writes("<p>:. a</p>", ":. a");
        writes("<p>/. a</p>", "/. a");
        writes("<p>, a</p>", ", a");
        sentence("which has its number as the first one");
        writes("<o0><i></i></o>", "0.");
        writes("<o0><i>a</i></o>", "0000. a");
        writes("<o1><i>a</i></o>", "0001. a");
        writes("<o9><i>a</i></o>", "9. a");
        writes("<o999><i>a</i></o>", "0999. a");
        writes("<o9999><i>a</i></o>", "9999. a");
        writes("<o7><i>a</i><i>b</i><i>c</i></o>", "7. a", "7. b", "3. c");
    }

    private void itemsBehindParagraphs() {
        sentence("only with something behind it");
        writes("<p>a</p><u><i>b</i></u>", "a", "+ b");
        writes("<p>a\n+</p>", "a", "+");
        writes("<p>a\n+ </p>", "a", "+ ");
        writes("<p>a\n*</p>", "a", "*");
        writes("<p>a\n1.</p>", "a", "1.");
        writes("<p>a</p><u><i><u><i></i></u></i></u>", "a", "+ +");
        sentence("and digits only for the number 1");
        writes("<p>a\n0. b</p>", "a", "0. b");
        writes("<p>a</p><o1><i>b</i></o>", "a", "1. b");
        writes("<p>a\n2. b</p>", "a", "2. b");
        writes("<p>a\n10. b</p>", "a", "10. b");
        writes("<p>a\n11. b</p>", "a", "11. b");
        writes("<p>a</p><o1><i>b</i></o>", "a", "0001. b");
        sentence("but if a paragraph is open in what is met so far, and nothing has begun in this line");
        writes("<q><p>a</p></q><u><i></i></u>", "> a", "+");
        writes("<q><p>a</p></q><o2><i>b</i></o>", "> a", "2. b");
        writes("<q><p>a\n2. b</p></q>", "> a", "> 2. b");
        writes("<p>a</p><q><u><i></i></u></q>", "a", "> +");
        writes("<p>a</p><q><o2><i>b</i></o></q>", "a", "> 2. b");
        writes("<u><i>a</i></u><o2><i>b</i></o>", "- a", "2. b");
        writes("<u><i>a</i><i></i></u>", "+ a", "+");
        writes("<h1>a</h1><o2><i>b</i></o>", "# a", "2. b");
        writes("<p>a</p><o2><i>b</i></o>", "a", "", "2. b");
        writes("<t><w><d>a</d></w></t><o2><i>b</i></o>", "a|", "-|", "2. b");
        writes("<t><w><d>a</d></w></t><u><i></i></u>", "a|", "-|", "-");
    }

    /** An item's code tells its width: a line with one blank less is none of it. */
    private void width(int due, String line) {
        String list = line.trim().startsWith("-") ? "u" : "o" + Integer.parseInt(line.trim().replaceAll("\\..*", ""));
        String begin = "<" + list + "><i><c>";
        String end = "</c></i></" + list.charAt(0) + ">";
        writes(begin + end + "<p>x</p>", line + "```", blanks(due - 1) + "x");
        writes(begin + "x\n" + end, line + "```", blanks(due) + "x");
        writes(begin + " x\n" + end, line + "```", blanks(due + 1) + "x");
    }

    private void widthsOfItems() {
        sentence("Its width is the number of blanks ahead of it, the length of this, and the number of blanks behind it");
        width(2, "- ");
        width(3, " - ");
        width(12, blanks(10) + "- ");
        width(3, "1. ");
        width(4, "12. ");
        width(5, "123. ");
        width(6, "1234. ");
        width(9, "   1234. ");
        width(3, "-  ");
        width(4, "-   ");
        sentence("which is taken as 1 if it is more than 4");
        width(5, "-    ");
        width(2, "-     ");
        width(2, "-      ");
        width(2, "-" + blanks(30));
        width(6, "1.    ");
        width(3, "1.     ");
        sentence("or nothing else follows");
        for (int behind : new int[] {0, 1, 2, 3, 4, 5, 39}) {
            writes("<u><i>a</i></u>", "-" + blanks(behind), "  a");
            writes("<u><i></i></u><p>a</p>", "-" + blanks(behind), " a");
        }
        writes("<o1><i>a</i></o>", "1.   ", "   a");
        writes("<o1><i></i></o><p>a</p>", "1.   ", "  a");
        sentence("the place is behind as many");
        writes("<u><i><u><i><c></c></i></u></i></u><p>x</p>", "-      - ```", " x");
        // five blanks behind the sign: one is in the width, and four are ahead of the item within
        writes("<u><i><u><i><c>x\n</c></i></u></i></u>", "-     - ```", blanks(8) + "x");
        writes("<u><i><u><i><c></c></i></u>x</i></u>", "-     - ```", blanks(7) + "x");
        writes("<u><i><u><i><c>x\n</c></i></u></i></u>", "-    - ```", blanks(7) + "x");
        writes("<u><i><u><i><c></c></i></u>x</i></u>", "-    - ```", blanks(6) + "x");
    }

    private void listsOfItems() {
        sentence("the list which is the last block of what it comes to, if that was made of the same sign");
        writes("<u><i>a</i><i>b</i></u>", "- a", "- b");
        writes("<u><i>a</i></u><u><i>b</i></u>", "- a", "+ b");
        writes("<u><i>a</i></u><u><i>b</i></u>", "- a", "* b");
        writes("<u><i>a</i></u><u><i>b</i></u>", "* a", "+ b");
        writes("<u><i>a</i></u><o1><i>b</i></o>", "- a", "1. b");
        writes("<o5><i>a</i><i>b</i></o>", "5. a", "5. b");
        writes("<o5><i>a</i></o><u><i>b</i></u><o6><i>c</i></o>", "5. a", "- b", "6. c");
        writes("<u><i>a<u><i>b</i></u></i><i>c</i></u>", "- a", "  - b", "- c");
        writes("<u><i>a<u><i>b</i><i>c</i></u></i></u>", "- a", "  - b", "  - c");
        writes("<q><u><i>a</i></u></q><u><i>b</i></u>", "> - a", "- b");
        sentence("and nothing came behind it");
        writes("<u><i><p>a</p></i><i><p>b</p></i></u>", "- a", "", "", "- b");
        writes("<u><i>a</i></u><h1>x</h1><u><i>b</i></u>", "- a", "# x", "- b");
        writes("<u><i>a</i></u><u><i>b</i></u><u><i>c</i></u>", "- a", "+ b", "- c");
        writes("<u><i>a</i></u><p>x</p><u><i>b</i></u>", "- a", "", "x", "- b");
    }

    private void headings() {
        sentence("1 to 6 '#', and behind that a blank or nothing");
        for (int level = 1; level <= 6; level++) {
            String row = "#".repeat(level);
            writes("<h" + level + ">a</h" + level + ">", row + " a");
            writes("<h" + level + "></h" + level + ">", row);
            writes("<h" + level + "></h" + level + ">", row + " ");
            writes("<p>" + row + "a</p>", row + "a");
            same("level of " + row, text(row).levelOf(0), level);
        }
        writes("<p>#######</p>", "#######");
        writes("<p>####### a</p>", "####### a");
        writes("<h1>a</h1>", blanks(37) + "# a");
        writes("<h1></h1>", blanks(39) + "#");
        writes("<p>a</p><h1></h1>", "a", "#");
        writes("<h1>a</h1><p>b</p>", "# a", "b");
        writes("<p>\" a</p>", "\" a");
        writes("<p>$ a</p>", "$ a");
        writes("<p>#-</p>", "#-");
    }

    private void headingTexts() {
        sentence("its text is the rest behind them, without blanks at both ends");
        writes("<h1>a</h1>", "#  a  ");
        writes("<h1>a</h1>", "#" + blanks(38) + "a");
        writes("<h1>a  b</h1>", "# a  b");
        sentence("and without a last row of '#', if a blank or nothing is ahead of that");
        writes("<h1>a</h1>", "# a #");
        writes("<h1>a</h1>", "# a ##");
        writes("<h1>a</h1>", "# a " + "#".repeat(36));
        writes("<h1>a</h1>", "# a   #   ");
        writes("<h1>a#</h1>", "# a#");
        writes("<h1>a##</h1>", "# a##");
        writes("<h1>a #b</h1>", "# a #b");
        writes("<h1>a #</h1>", "# a # #");
        writes("<h1></h1>", "# #");
        writes("<h1></h1>", "#  ##  ");
        writes("<h6></h6>", "###### ######");
        writes("<h2>#a</h2>", "## #a");
        writes("<h2>a #</h2>", "## a \\#");
    }

    private void codeThatBegins() {
        sentence("3 '`' or more, and no other '`' behind that; that is all");
        writes("<p>``</p>", "``");
        writes("<p>`` x</p>", "`` x");
        writes("<c></c>", "```");
        writes("<c></c>", "````");
        writes("<c></c>", "`".repeat(40));
        writes("<c></c>", blanks(37) + "```");
        writes("<c></c>", "```x");
        writes("<c></c>", "```" + "x".repeat(37));
        writes("<p>```x`</p>", "```x`");
        writes("<p>``` `</p>", "``` `");
        writes("<p><k>x</k></p>", "```x```");
        writes("<c>x\n</c>", "```> - # x", "x");
        writes("<p>a</p><c>b\n</c>", "a", "```", "b");
    }

    private void tablesThatBegin() {
        String one = "<t><w><d>a</d></w></t>";
        String two = "<t><w><d>a</d><d>b</d></w></t>";
        sentence("if all are met, nothing has begun in this line, and a paragraph of one line is open");
        writes(two, "a|b", "-|-");
        writes("<p>x\na|b\n-|-</p>", "x", "a|b", "-|-");
        writes("<p>a|b\nx\n-|-</p>", "a|b", "x", "-|-");
        writes("<p>a|b\nc|d\n-|-</p>", "a|b", "c|d", "-|-");
        writes("<q><p>a|b\nc|d\n-|-</p></q>", "> a|b", "c|d", "> -|-");
        writes("<p>-|-</p>", "-|-");
        writes("<p>a|b</p><p>-|-</p>", "a|b", "", "-|-");
        writes("<q>" + two + "</q>", "> a|b", "> -|-");
        writes("<q><p>a|b\n-|-</p></q>", "> a|b", "-|-");
        writes("<p>a|b</p><q><p>-|-</p></q>", "a|b", "> -|-");
        writes("<h1>a|b</h1><p>-|-</p>", "# a|b", "-|-");
        writes("<p>a|b\n-|-</p>", "[a]: g", "a|b", "-|-");
        sentence("which has a '|', whatever is ahead of it, and as many cells as this has");
        writes(one, "a|", "-|");
        writes("<p>a\n-|</p>", "a", "-|");
        writes("<p>a\n|-|</p>", "a", "|-|");
        writes("<t><w><d>a|b</d></w></t>", "a\\|b", "|-");
        writes("<p>a|b\n-|-</p>", "a\\|b", "-|-");
        writes("<p>a|b\n-|</p>", "a|b", "-|");
        writes("<p>a|b\n-|-|-</p>", "a|b", "-|-|-");
        writes("<p>a|b|c\n-|-</p>", "a|b|c", "-|-");
        writes("<t><w><d></d></w></t>", "|", "|-");
        writes("<t><w><d></d></w></t>", "||", "-|");
        writes("<p>|||\n-|</p>", "|||", "-|");
        writes("<t><w><d></d><d></d></w></t>", "|||", "-|-");
        writes("<t><w>" + "<d></d>".repeat(20) + "</w></t>", "|".repeat(21), "-|".repeat(20));
        writes("<t><w>" + "<d>a</d>".repeat(20) + "</w></t>", "a|".repeat(20), "-|".repeat(20));
        writes("<t><w>" + "<d>a</d>".repeat(19) + "</w></t>", "|" + "a|".repeat(19), "|" + "-|".repeat(19));
        sentence("with one '|' or more");
        writes("<h2>a|</h2>", "a|", "-");
        writes("<p>a|\n:-</p>", "a|", ":-");
        writes(one, "a|", "-|");
        writes(one, "a|", "|-|");
        sentence("the paragraph becomes the head of a table; that is all");
        tops("t0", "a|b", "-|-");
        tops("t0 p3", "a|b", "-|-", "", "c");
        writes("<t><w><d>a</d></w><w><d>-</d></w></t>", "a|", "-|", "-|");
    }

    private void cellsOfDashes() {
        sentence("'-' alone in each cell, a ':' at either end of a cell aside");
        String table = "<t><w><d>a</d><d>b</d></w></t>";
        for (String cell : new String[] {"-", "--", "---", ":-", "-:", ":-:", ":--:", " - ", "  :-:  "}) {
            writes(table, "a|b", "|-|" + cell + "|");
            writes(table, "a|b", "|" + cell + "|-|");
        }
        for (String cell : new String[] {"", ":", "::", ":::", "::-", "-::", ": -", "- :", "- -", "-x", "x-", "=", "-:-", "x"}) {
            writes("<p>a|b\n|-|" + cell + "|</p>", "a|b", "|-|" + cell + "|");
            writes("<p>a|b\n|" + cell + "|-|</p>", "a|b", "|" + cell + "|-|");
        }
        writes("<p>a|b\n-|</p>", "a|b", "-\\|");
    }

    private void whatEnds() {
        sentence("What begins ends all that is not met and the open leaf of what it comes to");
        writes("<q><p>a</p></q><h1>b</h1><q><p>c</p></q>", "> a", "# b", "> c");
        writes("<q><p>a</p><h1>b</h1></q>", "> a", "> # b");
        writes("<p>a</p><h1>b</h1><p>c</p>", "a", "# b", "c");
        writes("<t><w><d>a</d></w></t><h1>b</h1><p>c</p>", "a|", "-|", "# b", "c");
        writes("<q><q><p>a</p></q><r></q>", ">> a", "> ---");
        writes("<u><i>a</i></u><c></c>", "- a", "```");
    }

    // ---- what goes on

    private void blankRests() {
        sentence("the rest is blank, all that is not met ends, and a paragraph or table that is open");
        writes("<p>a</p><p>b</p>", "a", "", "b");
        writes("<p>a\nb</p>", "a", "b");
        writes("<t><w><d>a</d></w></t><p>b</p>", "a|", "-|", "", "b");
        writes("<q><p>a</p></q><q><p>b</p></q>", "> a", "", "> b");
        writes("<q><p>a</p><p>b</p></q>", "> a", ">", "> b");
        writes("<q><q><p>a</p></q><q><p>b</p></q></q>", ">> a", ">", ">> b");
        writes("<c>\nb\n</c>", "```", "", "b");
        writes("<q><c></c></q><q><p>b</p></q>", "> ```", "", "> b");
        writes("<u><i>a<q></q></i></u><p>b</p>", "- a", "  >", "b");
    }

    private void lazyLines() {
        sentence("if nothing has begun in this line, not all are met, and a paragraph is open");
        writes("<q><p>a\nb</p></q>", "> a", "b");
        writes("<q><q><p>a\nb</p></q></q>", ">> a", "b");
        writes("<q><u><i>a\nb</i></u></q>", "> - a", "> b");
        writes("<q><p>a\nb</p></q>", "> a", "> b");
        writes("<q><p>a</p><q><p>b</p></q></q>", "> a", "> > b");
        writes("<q><h1>a</h1></q><p>b</p>", "> # a", "b");
        writes("<q><c></c></q><p>b</p>", "> ```", "b");
        writes("<q><t><w><d>a</d></w></t></q><p>b</p>", "> a|", "> -|", "b");
        writes("<q></q><p>b</p>", ">", "b");
        writes("<u><i><u><i></i></u></i></u><p>b</p>", "- -", "b");
        sentence("the text of the rest goes on with this, and all stays open");
        writes("<q><p>a\nb\nc</p></q>", "> a", "b", "> c");
        writes("<q><q><p>a\nb\nc</p></q></q>", ">> a", "   b   ", ">> c");
        writes("<u><i>a\nb\nc</i></u>", "- a", "b", "  c");
        writes("<u><i>a\nb</i><i>c</i></u>", "- a", "b", "- c");
    }

    private void nextLines() {
        sentence("the text of the rest is the next line of the open paragraph, which keeps the blanks behind it");
        writes("<p>a\nb</p>", "a", "b");
        writes("<p>a\nb </p>", "a", "b ");
        writes("<p>a\nb" + blanks(39) + "</p>", "a", "b" + blanks(39));
        writes("<p>a\nb</p>", "a", "   b");
        sentence("the next row of the open table, or the first line of a new paragraph");
        writes("<t><w><d>a</d></w><w><d>b</d></w></t>", "a|", "-|", " b  ");
        writes("<p>b</p>", " b  ");
        writes("<q><c></c></q><p>b</p>", "> ```", " b ");
    }

    // ---- cells

    /** The cells of the only row behind a head with as many as are due. */
    private void row(String line, String... due) {
        StringBuilder head = new StringBuilder();
        StringBuilder written = new StringBuilder();
        for (String cell : due) {
            head.append("<d>h</d>");
            written.append("<d>").append(cell).append("</d>");
        }
        String table = "<t><w>" + head + "</w><w>" + written + "</w></t>";
        writes(table, "h|".repeat(due.length), "-|".repeat(due.length), line);
    }

    private void cells() {
        sentence("The cells of a row are what is between '|', without blanks at both ends");
        row("a", "a");
        row("a|b", "a", "b");
        row(" a  |  b ", "a", "b");
        row("a b|c  d", "a b", "c  d");
        row("a|b|c|d", "a", "b", "c", "d");
        sentence("one at either end of the row left out");
        row("|a", "a");
        row("a|", "a");
        row("|a|", "a");
        row(" | a | ", "a");
        row("||a", "", "a");
        row("a||b", "a", "", "b");
        row("||a||", "", "a", "");
        row("|", "");
        row("||", "");
        row("|||", "", "");
        row("| |", "");
        sentence("a '|' behind a '\\' does not count");
        row("a\\|b", "a|b");
        row("\\|a", "|a");
        row("a\\|", "a|");
        row("a\\||b", "a|", "b");
        row("a\\\\|b", "a\\|b");
        row("a\\ |b", "a\\", "b");
        row("|\\|", "|");
    }

    private void rowsOfTables() {
        sentence("A row of a table has as many cells as its head: more are left out, fewer are filled up with empty ones");
        row("a|b|c", "a", "b");
        row("a|b", "a", "b");
        row("a", "a", "");
        row("|", "", "");
        row("a", "a", "", "", "");
        row("a|b|c|d", "a");
        row("a|".repeat(20), "a");
        same("links in cells left out", text("a|", "-|", "b|[x](g)").links(), 0);
    }

    // ---- loose

    private void emptyLines() {
        sentence("A line is empty in what it comes to if nothing began in it, its rest was blank, and it is no line of code");
        loose(0, "- a", "- b");
        loose(1, "- a", "", "- b");
        loose(1, "- a", blanks(40), "- b");
        loose(0, "- a", "-", "- b");
        loose(0, "- a", "  >", "- b");
        loose(0, "- a", "  -", "- b");
        loose(0, "- ```", "", "  ```", "- b");
        loose(0, "- ```", "", "", "- b");
        loose(1, "- ```", "  ```", "", "- b");
        loose(1, "> - a", ">", "> - b");
        loose(1, "> - a", ">   ", "> - b");
        loose(0, "> - a", "> >", "> - b");
        loose(0, "- ***", "- ---", "- #");
    }

    private void looseLists() {
        sentence("A list is loose if an empty line is between two of its items");
        loose(1, "- a", "- b", "", "- c");
        loose(1, "- a", "", "", "- b", "- c");
        loose(0, "- a", "- b", "");
        loose(0, "", "- a", "", "+ b", "", "1. c", "");
        loose(1, "1. a", "", "2. b");
        loose(0, "- a", "", "# b");
        loose(0, "- a", "", "# b", "", "- c");
        sentence("or between two blocks that one of its items has");
        loose(1, "- a", "", "  b");
        loose(0, "- a", "  # b");
        loose(1, "- # a", "", "  # b");
        loose(1, "- a", "- b", "", "  c", "- d");
        loose(0, "- > a", "  >", "  > b");
        loose(1, "- > a", "", "  > b");
        loose(1, "- a", "  - b", "", "  - c");
        loose(1, "- a", "  - b", "", "- c");
        loose(1, "- a", "", "  - b", "  - c");
        loose(2, "- a", "", "  - b", "", "  - c");
        sentence("where blocks and items end with the last line that is not empty and adds to them");
        loose(0, "> - a", "b", "> - c");
        loose(0, "- a", "b", "- c");
        loose(1, "- a", "b", "", "- c");
        loose(0, "- ```", "", "  x", "- b");
        loose(1, "- a", "  - b", "c", "", "- d");
        loose(1, "-", "", "- b");
        loose(1, "- a", "", "-");
        loose(1, "- a|", "  -|", "  b", "", "- c");
        loose(0, "- a", "  ===", "- c");
    }

    // ---- definitions

    private void endsOfDefinitions() {
        sentence("As a paragraph ends, but not as it becomes a heading or a table, as long as its first line is");
        definitions(1, "[a]: g");
        definitions(1, "[a]: g", "", "x");
        definitions(1, "[a]: g", "# x");
        definitions(1, "> [a]: g", "", "x");
        definitions(0, "[a]: g", "=");
        definitions(0, "[a]: g", "-");
        definitions(0, "[a]:g|", "-|");
        definitions(2, "[a]: g", "[b]: h");
        definitions(1, "[a]: g", "x", "[b]: h");
        definitions(0, "x", "[a]: g");
        definitions(2, "[a]: g", "[b]: h", "x", "[c]: i");
        writes("<p>x\n[c]: i</p>", "[a]: g", "[b]: h", "x", "[c]: i");
        writes("<h1>[a]: g</h1>", "[a]: g", "=");
        String[] most = new String[24];
        for (int line = 0; line < most.length; line++) {
            most[line] = "[" + (char) ('a' + line) + "]:g";
        }
        definitions(24, most);
        same("all are gone", text(most).write(), 0);
    }

    private void goals() {
        sentence("a '[', a label, \"]:\", blanks or none, and a goal without blanks, which is not empty");
        definitions(1, "[a]:g");
        definitions(1, "[a]: g");
        definitions(1, "[a]:" + blanks(35) + "g");
        definitions(0, "[a]:");
        definitions(0, "[a]: ");
        definitions(0, "[a]: g h");
        definitions(0, "[a]:g h");
        definitions(0, "[a] : g");
        definitions(0, "[a] g");
        definitions(0, "[a:g");
        definitions(0, "a]:g");
        definitions(0, "x[a]:g");
        definitions(0, "xa]:g");
        definitions(0, "[a[: g");
        definitions(0, "[a];g");
        definitions(1, "[a]:" + "g".repeat(36));
        definitions(1, "[a]:[b]:");
        definitions(1, "[a]::");
        definitions(1, "  [a]: g  ");
        bothWays("<a " + "g".repeat(36) + ">a</a>", "[a]", "[a]:" + "g".repeat(36));
    }

    private void bothWays(String due, String line, String definition) {
        writes("<p>" + due + "</p>", line, "", definition);
        writes("<p>" + due + "</p>", definition, line);
    }

    private void notes() {
        sentence("with a '^' ahead of the label, a note, whose text is all that is behind the colon");
        noteLabels(1, "[^a]:t");
        noteLabels(1, "[^a]: t");
        noteLabels(1, "[^a]: t u  v");
        definitions(0, "[^a]: t");
        noteLabels(0, "[a]: t");
        noteLabels(0, "[a^]: t");
        definitions(1, "[a^]: t");
        sentence("without blanks at both ends, and not empty");
        noteLabels(0, "[^a]:");
        noteLabels(0, "[^a]: ");
        noteLabels(1, "[^a]:" + blanks(34) + "t");
        writes("<p><n1></p><f1>t  u</f>", "[^a]", "", "[^a]:   t  u");
        writes("<p><n1></p><f1>t</f>", "[^a]", "", "[b]: g", "[^a]: t   ");
    }

    private void labels() {
        sentence("A label has characters but '[' and ']', one at least that is no blank");
        definitions(0, "[]: g");
        definitions(0, "[ ]: g");
        definitions(0, "[" + blanks(35) + "]: g");
        definitions(1, "[a]: g");
        definitions(1, "[ a ]: g");
        definitions(1, "[" + blanks(34) + "a]: g");
        definitions(1, "[" + "a".repeat(36) + "]:g");
        definitions(0, "[a[b]: g");
        definitions(0, "[a]b]: g");
        definitions(0, "[[a]: g");
        definitions(0, "[a]]: g");
        definitions(1, "[\\]: g");
        definitions(1, "[Z\\^]: g");
        noteLabels(0, "[^]: t");
        noteLabels(0, "[^ ]: t");
        noteLabels(1, "[^ a ]: t");
        noteLabels(0, "[^a[]: t");
        sentence("a '^' right behind the '[' is never a part of a label");
        definitions(0, "[^]: g");
        definitions(0, "[^]: g", "[^^]: g");
        noteLabels(1, "[^^]: g");
        definitions(1, "[a^]: g");
        definitions(1, "[ ^a]: g");
        noteLabels(0, "[ ^a]: g");
        writes("<p>[^a]</p>", "[^a]", "", "[ ^a]: g");
        writes("<p><a g> ^a</a></p>", "[ ^a]", "", "[ ^a]: g");
        writes("<p>[x][^a]</p>", "[x][^a]", "", "[ ^a]: g");
        writes("<p><n1></p><f1>t</f>", "[^^]", "", "[^^]: t");
        writes("<p>[^a]</p>", "[^a]", "", "[a]: g");
        writes("<p>[a]</p>", "[a]", "", "[^a]: t");
        writes("<p>[x][^a]</p>", "[x][^a]", "", "[a]: g");
        writes("<p>[x]<n1></p><f1>t</f>", "[x][^a]", "", "[^a]: t");
    }

    private void sameLabels() {
        sentence("labels are the same without blanks at both ends, with small letters in place of great ones");
        bothWays("<a g>az</a>", "[az]", "[AZ]: g");
        bothWays("<a g>AZ</a>", "[AZ]", "[az]: g");
        bothWays("<a g> a </a>", "[ a ]", "[a]: g");
        bothWays("<a g>a</a>", "[a]", "[  a  ]: g");
        bothWays("[a b]", "[a b]", "[a  b]: g");
        bothWays("[ab]", "[ab]", "[a b]: g");
        bothWays("[a]", "[a]", "[ab]: g");
        bothWays("[ab]", "[ab]", "[a]: g");
        bothWays("[b]", "[b]", "[a]: g");
        // the characters beside the great letters stay what they are
        bothWays("[`]", "[`]", "[@]: g");
        bothWays("[@]", "[@]", "[`]: g");
        bothWays("[^a]", "[^a]", "[^A^]: t");
        definitions(1, "[a]: g", "[A]: h", "[ a ]: i");
        definitions(3, "[a]: g", "[b]: h", "[ab]: i");
        noteLabels(1, "[^a]: t", "[^A]: u");
        sentence("and a blank in place of an end of line");
        writes("<p><a g>a\nb</a></p>", "[a", "b]", "", "[a b]: g");
        writes("<p>[a</p><p>b]</p>", "[a", "", "b]", "", "[a b]: g");
        writes("<p>[ab]</p>", "[ab]", "", "[a b]: g");
        writes("<p><a g>a\nb\nc</a></p>", "[a", "b", "c]", "", "[a b c]: g");
        writes("<p><a g>\na</a></p>", "[", "a]", "", "[a]: g");
        writes("<p><a g>a\n</a></p>", "[a", "]", "", "[a]: g");
        // what is between may be longer than any line, and so than any label
        String most = "a".repeat(35);
        writes("<p><a g>" + most + "</a></p>", "[" + most + "]", "", "[" + most + "]: g");
        for (int behind : new int[] {3, 4, 5, 39}) {
            String next = "b".repeat(behind);
            writes("<p>[" + most + "\n" + next + "]</p>", "[" + most, next + "]", "", "[" + most + "]: g");
        }
        sentence("Of several definitions of a label the first one in the text counts");
        writes("<p><a g>a</a></p>", "[a]", "", "[a]: g", "[a]: h", "[A]: i");
        writes("<q></q><p><a g>a</a></p>", "> [a]: g", "", "[a]", "", "[a]: h");
        writes("<p><n1></p><f1>t</f>", "[^a]", "", "[^a]: t", "[^a]: u");
        writes("<p><n1><a g>a</a></p><f1>t</f>", "[^a][a]", "", "[a]: g", "[^a]: t");
    }

    private void goneParagraphs() {
        sentence("A paragraph without lines is gone");
        tops("-0", "[a]: g");
        tops("-0", "[a]: g", "[^b]: h");
        tops("p0", "[a]: g", "x");
        tops("-0 p2", "[a]: g", "", "x");
        tops("p0", "[a]:");
        writes("", "[a]: g");
        writes("<q></q>", "> [a]: g");
        same("it is no paragraph", text("[a]: g", "", "x").count('p'), 1);
        same("one line is left", text("[a]: g", "x").count('p'), 1);
    }
}
