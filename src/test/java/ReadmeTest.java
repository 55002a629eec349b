import java.io.IOException;
import java.nio.file.Files;
import java.nio.file.Path;

/** The calls that README.md shows, with the answers that it tells of them. */
public final class ReadmeTest extends Checks {

    public static void main(String[] args) throws IOException {
        ReadmeTest test = new ReadmeTest();
        test.examples();
        test.showsTheseCalls();
        test.namesAllTests();
        test.close("ReadmeTest");
    }

    private void examples() {
        sentence("README.md, Use");
        WeaveMark mark = new WeaveMark();
        for (char sign : "- a *b*".toCharArray()) {
            mark.type(sign);
        }
        same("addLine", mark.addLine(), 1);
        int length = mark.write();
        same("write", length, 24);
        StringBuilder out = new StringBuilder();
        for (int index = 0; index < length; index++) {
            out.append(mark.charAt(index));
        }
        same("charAt", out.toString(), "<u><i>a <e>b</e></i></u>");
        same("kindOf", mark.kindOf(0), 'u');
        same("readLast", mark.readLast(), 1);
        for (char sign : "# c".toCharArray()) {
            mark.type(sign);
        }
        same("insertLine", mark.insertLine(0), 2);
        same("readLast", mark.readLast(), 1);
        same("beginOf", mark.beginOf(1), 1);
        same("setLine", mark.setLine(1), 7);
        same("tops", mark.tops(), 1);
        same("removeLine", mark.removeLine(1), 1);
        same("keptShare", mark.keptShare(), 1f / 6f);
    }

    private static Path file(String name) {
        return Path.of(name);
    }

    /** Each line of Java in README.md stands in the method above, so that neither goes on alone. */
    private void showsTheseCalls() throws IOException {
        String here = Files.readString(file("src/test/java/ReadmeTest.java"));
        boolean isJava = false;
        int found = 0;
        for (String line : Files.readAllLines(file("README.md"))) {
            if (line.startsWith("```")) {
                isJava = line.equals("```java");
            } else if (isJava) {
                found++;
                String call = line.replaceFirst(" *//.*", "").replaceFirst(";$", "").trim();
                same("tested: " + call, here.contains(call), true);
            }
        }
        same("README.md has Java", found > 0, true);
    }

    private void namesAllTests() throws IOException {
        String readme = Files.readString(file("README.md"));
        try (var sources = Files.list(file("src/test/java"))) {
            for (Path source : sources.toList()) {
                String name = source.getFileName().toString().replace(".java", "");
                boolean isTold = readme.contains("`" + name + "`");
                same("README.md tells of " + name, isTold, true);
            }
        }
    }
}
