/** What tests of one WeaveMark after the other share: asking, typing, and telling what is wrong. */
abstract class Checks {

    private final Tally tally = new Tally();
    private String about = "";

    final void promise(int number) {
        about = "promise " + number;
    }

    /** What follows holds the document to these words of it. */
    final void sentence(String words) {
        about = "\"" + words + "\"";
    }

    final void close(String name) {
        tally.close(name);
    }

    interface Call {
        Object answer();
    }

    final void same(String what, Object got, Object due) {
        tally.same(about + ": " + what, got, due);
    }

    /** The call throws just this exception; what it may not change is asked for by the caller. */
    final void throwing(String what, Class<?> due, Call call) {
        Object got;
        try {
            got = call.answer();
        } catch (RuntimeException e) {
            got = e.getClass();
        }
        same(what, got, due);
    }

    static void type(WeaveMark mark, String text) {
        for (char sign : text.toCharArray()) {
            mark.type(sign);
        }
    }

    static void add(WeaveMark mark, String... lines) {
        for (String line : lines) {
            type(mark, line);
            mark.addLine();
        }
    }

    static WeaveMark text(String... lines) {
        WeaveMark mark = new WeaveMark();
        add(mark, lines);
        return mark;
    }

    static WeaveMark full() {
        return empty(24);
    }

    /** A text of so many lines without a character. */
    static WeaveMark empty(int lines) {
        WeaveMark mark = new WeaveMark();
        for (int line = 0; line < lines; line++) {
            mark.addLine();
        }
        return mark;
    }

    static String shown(WeaveMark mark, int length) {
        StringBuilder out = new StringBuilder();
        for (int index = 0; index < length; index++) {
            out.append(mark.charAt(index));
        }
        return out.toString();
    }

    static String written(WeaveMark mark) {
        return shown(mark, mark.write());
    }

    final void writes(String due, String... lines) {
        String told = String.join("\n", lines);
        same("write of\n" + told, written(text(lines)), due);
        // another object, as one is for 512 calls
        WeaveMark mark = text(lines);
        same("writeAnew of\n" + told, shown(mark, mark.writeAnew()), due);
    }

    /** What a paragraph of these lines has written in its <p>. */
    final void runs(String due, String... lines) {
        writes("<p>" + due + "</p>", lines);
    }

    static String kindsOf(WeaveMark mark) {
        StringBuilder out = new StringBuilder();
        for (int top = 0; top < mark.tops(); top++) {
            out.append(mark.kindOf(top)).append(mark.beginOf(top)).append(' ');
        }
        return out.toString().trim();
    }

    final void tops(String due, String... lines) {
        same("top blocks of\n" + String.join("\n", lines), kindsOf(text(lines)), due);
    }
}
