import java.io.IOException;
import java.nio.file.Files;
import java.nio.file.Path;

/**
 * Compares the class with a second, plain reading of the document over many texts: what run answers, state,
 * out, told, fuel, MADE, bindings, on objects that are used on. With two numbers the first object's and how
 * many: there is an object for each number.
 */
public final class SecondReadingTest {
    private static final int OBJECTS = 4000;
    /** Uses up nearly all of MADE, or of fuel, so that what follows comes to the end of it. */
    private static final String FILL = "($define! fill (/ (- (expt 2 2047) 1) (expt 2 2047)))";
    private static final String LOOP = "($define! loop ($lambda (n) ($if (=? n 0) 0 (loop (- n 1)))))";

    private final Tongue tongue = new Tongue();
    private final SecondReading second;
    private final StringBuilder told = new StringBuilder();

    private SecondReadingTest(String library) {
        second = new SecondReading(library);
    }

    public static void main(String[] args) throws IOException {
        String library = library();
        int first = args.length > 1 ? Integer.parseInt(args[0]) : 0;
        int objects = args.length > 1 ? Integer.parseInt(args[1]) : OBJECTS;
        for (int i = 0; i < objects; i++) {
            new SecondReadingTest(library).runs(new Programs(first + i));
        }
        Tongue.close();
    }

    /** The library's text as the document has it. */
    private static String library() throws IOException {
        String document = Files.readString(Path.of("../shared/DOC.md"));
        int from = document.indexOf("($define! list*");
        return document.substring(from, document.indexOf("  OUTPUT of a run", from));
    }

    private void runs(Programs programs) {
        int kind = programs.below(10);
        if (kind == 0) {
            same(FILL, 30000);
            same("(number->string fill 2)".repeat(113), 30000);
            same("\"\"".repeat(programs.below(290)), 30000);
        } else if (kind == 1) {
            same(LOOP + "(loop " + (2200 + programs.below(120)) + ")", 30000);
        }
        if (kind != 2) {
            same(Programs.DEFINITIONS, 30000);
        }
        for (int i = programs.below(6); i >= 0; i--) {
            same(kind == 2 ? programs.tokens() : programs.text(), programs.fuel());
        }
    }

    private void same(String text, int fuel) {
        told.append("run(").append(fuel).append(") of ").append(text).append('\n');
        int answer = tongue.run(text, fuel);
        int due = second.run(text, fuel);
        String got = answer + ", " + tongue.all();
        String want = due + ", state " + second.state + ", fuel " + second.fuel + ", made " + second.made + ", bindings "
            + second.bindings() + ", out <" + second.out + ">, told <" + second.told + ">";
        Tongue.due(told.toString(), got, want);
    }
}
