/**
 * The sentences of the document's Terms on runs, emphasis, writing and the numbers of notes that name a
 * boundary: on the bound, one below it and one above it.
 */
public final class RunBoundsTest extends Checks {

    public static void main(String[] args) {
        RunBoundsTest test = new RunBoundsTest();
        test.textsOfRuns();
        test.escapes();
        test.hardBreaks();
        test.blanksAroundEnds();
        test.rowsOfCode();
        test.blanksInCode();
        test.bracketsThatOpen();
        test.usesOfNotes();
        test.goalsInParentheses();
        test.goalsOfLabels();
        test.pictures();
        test.switchedOff();
        test.opening();
        test.closing();
        test.underscores();
        test.nearestRows();
        test.multiplesOfThree();
        test.lengthsOfRows();
        test.rowsBetween();
        test.textsOfLinks();
        test.paragraphsInItems();
        test.levelsAndNumbers();
        test.everyKind();
        test.signs();
        test.numbersOfNotes();
        test.close("RunBoundsTest");
    }

    /** A paragraph of this line has this written, with definitions of a, "b c" and the note n below it. */
    private void defined(String due, String line) {
        writes("<p>" + due + "</p>", line, "", "[a]: g", "[b c]: h", "[^n]: t");
    }

    private void used(String due, String line) {
        writes("<p>" + due + "</p><f1>t</f>", line, "", "[a]: g", "[b c]: h", "[^n]: t");
    }

    // ---- runs

    private void textsOfRuns() {
        sentence("Paragraphs, headings, cells and notes have runs, found from the left to the right in their text");
        writes("<p>*a</p><p>b*</p>", "*a", "", "b*");
        writes("<p>[a</p><p>b](g)</p>", "[a", "", "b](g)");
        writes("<p>`a</p><p>b`</p>", "`a", "", "b`");
        writes("<p><e>a\nb</e></p>", "*a", "b*");
        writes("<h1><e>a</e> <k>b</k></h1>", "# *a* `b`");
        writes("<h1><e>a\nb</e></h1>", "*a", "b*", "=");
        writes("<t><w><d><e>a</e></d></w><w><d><k>b</k></d></w></t>", "*a*|", "-|", "`b`");
        writes("<t><w><d>*a</d><d>b*</d></w></t>", "*a|b*", "-|-");
        writes("<t><w><d>[a</d><d>b](g)</d></w></t>", "[a|b](g)", "-|-");
        writes("<t><w><d>`a</d><d>b`</d></w></t>", "`a|b`", "-|-");
        writes("<p><n1></p><f1><e>a</e></f>", "[^a]", "", "[^a]: *a*");
        writes("<c>*a*\n</c>", "```", "*a*");
        runs("<k>*a</k>*", "`*a`*");
        runs("<e>a<k>b*</k></e>", "*a`b*`*");
        runs("<a a`b>x</a>`", "[x](a`b)`");
    }

    private void escapes() {
        sentence("a '\\' and a sign, which is a character that is no letter, digit or blank");
        // the signs, and the characters beside them that are none
        runs("!", "\\!");
        runs("/", "\\/");
        runs("\\0", "\\0");
        runs("\\9", "\\9");
        runs(":", "\\:");
        runs("@", "\\@");
        runs("\\A", "\\A");
        runs("\\Z", "\\Z");
        runs("[", "\\[");
        runs("`", "\\`");
        runs("\\a", "\\a");
        runs("\\z", "\\z");
        runs("{", "\\{");
        runs("~", "\\~");
        runs("a\\ b", "a\\ b");
        runs("\\", "\\\\");
        runs("\\\\", "\\\\\\");
        runs("a\\", "a\\");
        sentence("this sign, with no other meaning");
        runs("*a*", "\\*a*");
        runs("*a*", "*a\\*");
        runs("`a`", "\\`a`");
        runs("[x](g)", "\\[x](g)");
        runs("[x](g)", "[x\\](g)");
        runs("!<a g>x</a>", "\\![x](g)");
        runs("![x](g)", "!\\[x](g)");
        runs("\\<e>a</e>", "\\\\*a*");
        runs("&l&a", "\\<\\&");
    }

    private void hardBreaks() {
        sentence("a '\\' right ahead of an end of line: a hard break, blanks ahead of the '\\' staying");
        runs("a<b>b", "a\\", "b");
        runs("a <b>b", "a \\", "b");
        runs("a   <b>b", "a   \\", "b");
        runs("<b>b", "\\", "b");
        runs("a<b><e>b</e>", "a\\", "*b*");
        runs("a\\\nb", "a\\\\", "b");
        runs("x\na\\\nb", "x", "a\\ ", "b");
        runs("x\na\\<b>b", "x", "a\\  ", "b");
        runs("a\\", "a\\");
        sentence("an end of line: a hard break if two blanks or more are ahead of it, else a soft one");
        runs("x\na\nb", "x", "a", "b");
        runs("x\na\nb", "x", "a ", "b");
        runs("x\na<b>b", "x", "a  ", "b");
        runs("x\na<b>b", "x", "a   ", "b");
        runs("x\na<b>b", "x", "a" + " ".repeat(39), "b");
    }

    private void blanksAroundEnds() {
        sentence("blanks on both sides of it are left out");
        runs("x\na\nb", "x", "  a ", "  b");
        runs("x\na<b>b", "x", "a  ", " b");
        runs("x\na<b>b", "x", "a\\", "   b");
        runs("a  b\nc", "a  b", "c");
        WeaveMark mark = text("a", "b");
        mark.write();
        same("the soft one", (int) mark.charAt(4), 10);
    }

    private void rowsOfCode() {
        sentence("as many '`' as possible, up to the next row of just as many");
        runs("<k>a</k>", "`a`");
        runs("<k>a</k>", "``a``");
        runs("<k>a`b</k>", "``a`b``");
        runs("<k>a```b</k>", "``a```b``");
        runs("<k>a``b</k>", "`a``b`");
        runs("<k>a</k>b`", "`a`b`");
        runs("<k>a</k>b<k>c</k>", "`a`b`c`");
        runs("x<k>a</k>", "x```a```");
        runs("<k>\\</k>", "`\\`");
        runs("<k>*a*[x](g)</k>", "`*a*[x](g)`");
        sentence("without such a row, they stand for themselves");
        runs("`", "`");
        runs("`a", "`a");
        runs("`a``", "`a``");
        runs("``a`", "``a`");
        runs("``a```", "``a```");
        runs("``<e>a</e>", "``*a*");
        runs("`<k>a</k>", "\\``a`");
    }

    private void blanksInCode() {
        sentence("ends of line in it are blanks, and one blank at each end is left out");
        runs("<k>a b</k>", "`a", "b`");
        runs("<k>a b c</k>", "`a", "b", "c`");
        runs("<k>a</k>", "` a `");
        runs("<k> a </k>", "`  a  `");
        runs("<k>a</k>", "`", "a", "`");
        runs("<k>a</k>", "`", "a `");
        sentence("if both are there and not all is blank");
        runs("<k> a</k>", "` a`");
        runs("<k>a </k>", "`a `");
        runs("<k> a</k>", "`  a `");
        runs("<k> </k>", "` `");
        runs("<k>  </k>", "`  `");
        runs("<k>   </k>", "`   `");
        runs("<k> </k>", "`", "`");
        runs("<k>a</k>", "`a`");
    }

    private void bracketsThatOpen() {
        sentence("the latest one that may open is looked at; it may not open any more behind that");
        runs("[<a g>x</a>", "[[x](g)");
        runs("<a g>a [x] b</a>", "[a [x] b](g)");
        sentence("If there is none, or it was switched off, the ']' stands for itself");
        runs("]", "]");
        runs("x](g)", "x](g)");
        runs("<a g>x</a>](g)", "[x](g)](g)");
        runs("[x]](g)", "[x]](g)");
        runs("]<e>a</e>", "]*a*");
        runs("[x]<e>a</e>", "[x]*a*");
        runs("[x <a g>a</a>]<e>b</e>", "[x [a](g)]*b*");
    }

    private void usesOfNotes() {
        sentence("If it is a '[' right behind which a '^' stands, and what is between is a label of a note");
        used("<n1>", "[^n]");
        used("<n1>", "[^N]");
        used("<n1>", "[^ n ]");
        defined("[ ^n]", "[ ^n]");
        defined("[^a]", "[^a]");
        defined("[^nn]", "[^nn]");
        defined("[^]", "[^]");
        defined("[^ ]", "[^ ]");
        defined("[n]", "[n]");
        defined("[ n]", "[ n]");
        defined("[xn]", "[xn]");
        defined("![^n]", "![^n]");
        used("!<n1>", "\\![^n]");
        used("<n1>(g)", "[^n](g)");
        used("<n1><a g>a</a>", "[^n][a]");
        defined("<a g>^x</a>", "[^x](g)");
        defined("<m g>^n</m>", "![^n](g)");
        used("[<n1>]", "[[^n]]");
        used("<n1><e>a</e>", "[^n]*a*");
        // the signs of the label are none of the text
        writes("<p><e>x <n1> y</e></p><f1>t</f>", "*x [^a*] y*", "", "[^a*]: t");
        writes("<p><n1></p><f1>t</f>", "[^`a`]", "", "[^`a`]: t");
    }

    private void goalsInParentheses() {
        sentence("a '(' and a ')' with no blanks, '(' and ')' between, it is a link to that");
        runs("<a g>x</a>", "[x](g)");
        runs("<a >x</a>", "[x]()");
        runs("[x]( )", "[x]( )");
        runs("[x]( g)", "[x]( g)");
        runs("[x](g )", "[x](g )");
        runs("[x](g h)", "[x](g h)");
        runs("[x](g(h)", "[x](g(h)");
        runs("[x]((g)", "[x]((g)");
        runs("<a g>x</a>)", "[x](g))");
        runs("[x](g", "[x](g");
        runs("[x](", "[x](");
        runs("[x] (g)", "[x] (g)");
        runs("[x]g)", "[x]g)");
        runs("<a g></a>", "[](g)");
        runs("<a g> </a>", "[ ](g)");
        runs("<a a\\*b>x</a>", "[x](a\\*b)");
        runs("<a " + "g".repeat(35) + ">x</a>", "[x](" + "g".repeat(35) + ")");
        defined("<a z>a</a>", "[a](z)");
        defined("<a >a</a>", "[a]()");
        defined("<a g>a</a>(z y)", "[a](z y)");
        defined("<a g>a</a>(z", "[a](z");
    }

    private void goalsOfLabels() {
        sentence("else if behind it stands a '[', a ']' and between a label that is defined, a link to its goal");
        defined("<a g>x</a>", "[x][a]");
        defined("<a h>x</a>", "[x][b c]");
        defined("<a h>a</a>", "[a][B C]");
        defined("<a g>x</a>", "[x][ A ]");
        defined("<a g></a>", "[][a]");
        defined("[x][z]", "[x][z]");
        defined("[x][ ]", "[x][ ]");
        defined("[x][^z]", "[x][^z]");
        defined("[x] <a g>a</a>", "[x] [a]");
        defined("[x][a", "[x][a");
        defined("[x]za]", "[x]za]");
        sentence("else if what is between the first two is a label that is defined, likewise");
        defined("<a g>a</a>", "[a]");
        defined("<a h>b c</a>", "[b c]");
        defined("[b  c]", "[b  c]");
        defined("[ab]", "[ab]");
        defined("[]", "[]");
        defined("<a g>a</a>[z]", "[a][z]");
        defined("<a g>a</a>[ ]", "[a][ ]");
        defined("<a g>a</a>[", "[a][");
        sentence("also if \"[]\" stands behind it, which belongs to it then");
        defined("<a g>a</a>", "[a][]");
        defined("<a g>a</a>[]", "[a][][]");
        defined("<a g>a</a> []", "[a] []");
        defined("<a g>a</a><e>b</e>", "[a]*b*");
        defined("<a g>a</a><e>b</e>", "[a][]*b*");
        defined("<a g>x</a><e>b</e>", "[x][a]*b*");
        defined("<a z>x</a><e>b</e>", "[x](z)*b*");
        defined("[z][]", "[z][]");
        sentence("else both stand for themselves");
        defined("[z]", "[z]");
        defined("[z]z", "[z]z");
        defined("<e>[z]</e>", "*[z]*");
        defined("![z]", "![z]");
    }

    private void pictures() {
        sentence("With \"![\" it is a picture instead");
        runs("<m g>x</m>", "![x](g)");
        runs("!<m g>x</m>", "!![x](g)");
        runs("! <a g>x</a>", "! [x](g)");
        runs("!", "!");
        runs("![", "![");
        defined("<m g>a</m>", "![a]");
        defined("<m g>a</m>", "![a][]");
        defined("<m h>x</m>", "![x][b c]");
        same("counted", text("![x](g)", "[x](g)", "[x]").links(), 2);
    }

    private void switchedOff() {
        sentence("by a link, and not by a picture, all '[' ahead are switched off");
        runs("[a <a g>b</a> c](h)", "[a [b](g) c](h)");
        runs("[[<a g>a</a>](h)](i)", "[[[a](g)](h)](i)");
        runs("<a h>a <m g>b</m> c</a>", "[a ![b](g) c](h)");
        runs("<m h>a <a g>b</a> c</m>", "![a [b](g) c](h)");
        runs("[a <m h>b <a g>c</a></m>](i)", "[a ![b [c](g)](h)](i)");
        runs("<a g>a</a> <a h>b</a>", "[a](g) [b](h)");
        used("<a z>x <n1></a>", "[x [^n]](z)");
        defined("[x <a g>a</a>](z)", "[x [a]](z)");
        defined("<a z>x [y]</a>", "[x [y]](z)");
    }

    // ---- emphasis

    private void opening() {
        sentence("may open if behind it stands no blank, end of line or end of text");
        runs("<e>a</e>", "*a*");
        runs("x* a*", "x* a*");
        runs("x*\na*", "x*", "a*");
        runs("x*", "x*");
        sentence("it is not so that a sign stands behind it and neither a sign, a blank, an end of line nor the beginning ahead of it");
        runs("a*(b*", "a*(b*");
        runs("(<e>(b</e>", "(*(b*");
        runs("a <e>(b</e>", "a *(b*");
        runs("a\n<e>(b</e>", "a", "*(b*");
        runs("<e>(b</e>", "*(b*");
        runs("a<e>b</e>", "a*b*");
        runs("1*(b*", "1*(b*");
        runs("a<e>1</e>", "a*1*");
    }

    private void closing() {
        sentence("it may close likewise the other way round");
        runs("*a *", "*a *");
        runs("*a\n*b", "*a", "*b");
        runs("*a)*b", "*a)*b");
        runs("<e>a)</e>)", "*a)*)");
        runs("<e>a)</e> b", "*a)* b");
        runs("<e>a)</e>\nb", "*a)*", "b");
        runs("<e>a)</e>", "*a)*");
        runs("<e>a</e>b", "*a*b");
        runs("*a)*1", "*a)*1");
        runs("x *", "x *");
    }

    private void underscores() {
        sentence("a row of '_' that may both open and close opens only with a sign ahead of it, and closes only with one behind it");
        runs("<e>a</e>", "_a_");
        runs("a_b_", "a_b_");
        runs("_a_b", "_a_b");
        runs("a_b_c", "a_b_c");
        runs("(<e>a</e>)", "(_a_)");
        runs("-<e>b</e>", "-_b_");
        runs("1_b_", "1_b_");
        runs("<e>b</e>-", "_b_-");
        runs("_b_1", "_b_1");
        // between two signs it does both
        runs("<e>(</e>)", "_(_)");
        runs("(<e>)</e>", "(_)_");
        runs("a<e>b</e>c", "a*b*c");
    }

    private void nearestRows() {
        sentence("the nearest row ahead of it of the same character that may open goes with it");
        runs("*a <e>b</e>", "*a *b*");
        runs("<e>a <e>b</e></e>", "*a *b**");
        runs("<e>a _b</e>", "*a _b*");
        runs("*a_", "*a_");
        runs("_a*", "_a*");
        runs("<e>a</e> b*", "*a* b*");
        runs("<e>a</e> <e>b</e>", "*a* *b*");
        runs("a* <e>b</e>", "a* *b*");
        sentence("rows that may close are looked at from the left to the right");
        runs("<e>a <e>b</e> c</e>", "*a *b* c*");
        runs("<e>a</e>b*", "*a*b*");
    }

    private void multiplesOfThree() {
        sentence("not if one of both rows may both open and close, and the sum of their first lengths is a multiple of 3");
        // the closing row does both
        runs("*a**b", "*a**b");
        runs("**a*b", "**a*b");
        runs("<e>a</e>b", "*a*b");
        runs("<s>a</s>b", "**a**b");
        runs("<e>a</e>**b", "*a***b");
        runs("**<e>a</e>b", "***a*b");
        runs("*a*****b", "*a*****b");
        // the opening row does both
        runs("a*b**", "a*b**");
        runs("a**b*", "a**b*");
        runs("a<e>b</e>", "a*b*");
        runs("a<e>b</e>**", "a*b***");
        // neither of them does
        runs("<e>a</e>*", "*a**");
        runs("*<e>a</e>", "**a*");
        runs("<s>a</s>**", "**a****");
        sentence("and not both lengths are");
        runs("<e><s>a</s></e>b", "***a***b");
        runs("a<e><s>b</s></e>", "a***b***");
        runs("***<e><s>a</s></e>b", "******a***b");
        runs("<e><s>a</s></e>***b", "***a******b");
        runs("<s><s>a</s></s>b", "****a****b");
        runs("**a****b", "**a****b");
        sentence("the sum of their first lengths");
        // of the 4 characters 3 are left, but the first lengths of 2 and 4 count
        runs("**a <e>b</e>***c", "**a *b****c");
    }

    private void lengthsOfRows() {
        sentence("If both have two characters or more, two of each are strong emphasis of what is between, else one of each is plain emphasis");
        runs("<e>a</e>", "*a*");
        runs("<s>a</s>", "**a**");
        runs("<e><s>a</s></e>", "***a***");
        runs("<s><s>a</s></s>", "****a****");
        runs("<e><s><s>a</s></s></e>", "*****a*****");
        runs("*<e>a</e>", "**a*");
        runs("<e>a</e>*", "*a**");
        runs("*<s>a</s>", "***a**");
        runs("<s>a</s>*", "**a***");
        runs("<s>a</s>", "__a__");
        runs("<e><s>a</s></e>", "___a___");
        sentence("what is left of each row goes on");
        runs("<e><s>a</s> b</e>", "***a** b*");
        runs("<s><e>a</e> b</s>", "***a* b**");
        runs("<e>a <s>b</s></e>", "*a **b***");
        runs("<s>a <e>b</e></s>", "**a *b***");
        runs("<e>a <e><e>b</e> c</e></e>", "*a **b* c**");
        sentence("What is never used stands for itself");
        runs("a *", "a *");
        runs("*a", "*a");
        runs("**<s>a</s>", "****a**");
        runs("_ _", "_ _");
    }

    private void rowsBetween() {
        sentence("rows between do not open or close any more");
        runs("<e>a _b</e> c_", "*a _b* c_");
        runs("_a <e>b_c</e>", "_a *b_c*");
        runs("<e>a</e> _b <e>c</e>", "*a* _b *c*");
        runs("<e>_</e> a_", "*_* a_");
    }

    private void textsOfLinks() {
        sentence("separately in the text of each link and picture as it is found, and in all at last");
        runs("*a <a g>b*</a>", "*a [b*](g)");
        runs("<a g>*a</a> b*", "[*a](g) b*");
        runs("<a g><e>a</e></a>", "[*a*](g)");
        runs("<e><a g>a</a></e>", "*[a](g)*");
        runs("<e>a <a g>b *c</a> d</e>", "*a [b *c](g) d*");
        runs("*a <m g>b*</m>", "*a ![b*](g)");
        // brackets that stand for themselves are no reason to look at the rows
        runs("*a <a g>b* [c] d</a>", "*a [b* [c] d](g)");
        runs("*a <a g>b* c</a>]", "*a [b* c](g)]");
        runs("<m g><e>a</e></m>", "![*a*](g)");
        runs("<e>a [b</e>](g h)", "*a [b*](g h)");
        runs("<m h>*a <m g>b*</m></m> c*", "![*a ![b*](g)](h) c*");
    }

    // ---- writing

    private void paragraphsInItems() {
        sentence("a paragraph <p>, in an item of a list that is not loose without this");
        writes("<p>a</p>", "a");
        writes("<u><i>a</i></u>", "- a");
        writes("<u><i><p>a</p></i><i></i></u>", "- a", "", "-");
        writes("<u><i><q><p>a</p></q></i></u>", "- > a");
        writes("<q><u><i>a</i></u></q>", "> - a");
        writes("<u><i>a<h1>b</h1></i></u>", "- a", "  # b");
        writes("<u><i><p>a</p><u><i>b</i></u></i></u>", "- a", "", "  - b");
        writes("<u><i>a<u><i><p>b</p></i><i><p>c</p></i></u></i></u>", "- a", "  - b", "", "  - c");
    }

    private void levelsAndNumbers() {
        sentence("a heading <h1> to <h6>");
        for (int level = 1; level <= 6; level++) {
            writes("<h" + level + ">a</h" + level + ">", "#".repeat(level) + " a");
        }
        sentence("a list <u>, or <o> with its first number behind the o if it is of digits");
        for (int number : new int[] {0, 1, 9, 10, 99, 100, 999, 1000, 9999}) {
            writes("<o" + number + "><i>a</i></o>", number + ". a");
        }
        writes("<u><i>a</i></u>", "- a");
    }

    private void everyKind() {
        sentence("Each but rules, breaks and uses of notes ends with </ and the letter, and the level of a heading");
        writes("<q></q>", ">");
        writes("<u><i></i></u>", "-");
        writes("<o5><i></i></o>", "5.");
        writes("<r>", "***");
        writes("<c></c>", "```");
        writes("<c>\n</c>", "```", "");
        writes("<t><w><d></d></w></t>", "|", "-|");
        writes("<h6></h6>", "######");
        runs("<e>a</e><s>b</s><k>c</k>", "*a*__b__`c`");
        runs("<a g>a</a><m h>b</m>", "[a](g)![b](h)");
        runs("a<b>b", "a\\", "b");
        sentence("code <c>, each line with an end of line");
        writes("<c></c>", "```", "```");
        writes("<c>a\n</c>", "```", "a", "```");
        writes("<c>a\nb\n</c>", "```", "a", "b", "```");
    }

    private void signs() {
        sentence("Characters are written as they are, but '<' as \"&l\" and '&' as \"&a\"");
        for (char sign : ";<=%&'>".toCharArray()) {
            String due = sign == '<' ? "&l" : sign == '&' ? "&a" : String.valueOf(sign);
            runs("a" + due, "a" + sign);
            runs("<k>" + due + "</k>", "`" + sign + "`");
            writes("<c>" + due + "\n</c>", "```", String.valueOf(sign));
            runs("<a " + due + ">" + due + "</a>", "[" + sign + "](" + sign + ")");
            writes("<p><m " + due + ">a</m></p>", "![a]", "", "[a]: " + sign);
            writes("<p><n1></p><f1>" + due + "</f>", "[^a]", "", "[^a]: " + sign);
            writes("<h1>a" + due + "</h1>", "# a" + sign);
            writes("<t><w><d>" + due + "</d></w></t>", sign == '>' ? "|" + sign : sign + "|", "-|");
        }
    }

    // ---- notes

    private void numbersOfNotes() {
        sentence("Notes get numbers from 1 on, as they are first used in what is written");
        writes("<p><n1><n2><n1></p><f1>b</f><f2>a</f>", "[^b][^a][^b]", "", "[^a]: a", "[^b]: b");
        writes("<p><n1></p><f1>b</f>", "[^b]", "", "[^a]: a", "[^b]: b");
        writes("<p>x</p>", "x", "", "[^a]: a");
        writes("<h1><n1></h1><q><p><n2></p></q><f1>b</f><f2>a</f>", "# [^b]", "> [^a]", "", "[^a]: a", "[^b]: b");
        writes("<t><w><d>x</d></w><w><d>y</d></w></t>", "x|", "-|", "y|[^a]", "", "[^a]: a");
        WeaveMark mark = new WeaveMark();
        add(mark, "[^a][^b][^c][^d]", "[^e][^f][^g][^h]", "[^i][^j][^k]", "");
        for (char label = 'a'; label <= 'k'; label++) {
            add(mark, "[^" + label + "]:" + label);
        }
        same("eleven are used", mark.usedNotes(), 11);
        String due = written(mark);
        same("two digits", due.contains("<n9><n10><n11></p><f1>a</f>") && due.endsWith("<f10>j</f><f11>k</f>"), true);
        sentence("those in notes behind the others, as they come");
        writes("<p><n1><n2></p><f1><n3></f><f2>b</f><f3>c</f>", "[^a][^b]", "", "[^a]: [^c]", "[^b]: b", "[^c]: c");
        writes("<p><n1></p><f1><n2></f><f2><n3></f><f3><n1></f>", "[^a]", "", "[^a]: [^b]", "[^b]: [^c]", "[^c]: [^a]");
        writes("<p><n1></p><f1><n1></f>", "[^a]", "", "[^a]: [^a]", "[^b]: [^c]", "[^c]: c");
    }
}
