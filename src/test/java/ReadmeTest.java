import java.io.IOException;
import java.nio.file.Files;
import java.nio.file.Path;
import java.util.ArrayList;
import java.util.List;

/** The examples of README.md: they stand here line by line, and do what README.md says. */
public final class ReadmeTest {
    private static final Due DUE = new Due();

    public static void main(String[] args) throws IOException {
        examplesStandHere();
        addTwoFields();
        readAndPrint();
        DUE.end();
    }

    private static void examplesStandHere() throws IOException {
        List<String> here = Files.readAllLines(Path.of("src/test/java/ReadmeTest.java"));
        here.replaceAll(String::trim);
        List<String> lines = exampleLines();
        DUE.same("lines of examples", 17, lines.size());
        for (String line : lines) {
            DUE.yes("the example's line stands in the test: " + line, here.contains(line));
        }
    }

    private static List<String> exampleLines() throws IOException {
        List<String> lines = new ArrayList<>();
        boolean inside = false;
        for (String line : Files.readAllLines(Path.of("README.md"))) {
            if (line.startsWith("```")) {
                inside = line.equals("```java");
            } else if (inside) {
                lines.add(line);
            }
        }
        return lines;
    }

    private static void addTwoFields() {
        CharMachine x = new CharMachine(1400);        // positions of the store: 400 .. 2000
        x.put(600, 0x010205FFFFFFFFFFL, 1);           // 125 at 600 .. 602, a word mark at 600
        x.put(603, 0x0A0A07FFFFFFFFFFL, 1);           // 007 at 603 .. 605
        x.put(340, 0x31060A02060A053BL, 0b10000001);  // A 602 605, then the halt
        x.set(348, 0, true);                          // a word mark ends the last instruction
        x.start(340);
        int reason = x.run(100);                      // 6: halted
        long sum = x.number(605);                     // 132
        DUE.same("add: reason", 6, reason);
        DUE.same("add: sum", 132, sum);
    }

    private static void readAndPrint() {
        CharMachine x = new CharMachine(1400);
        x.column(1, 49);                              // the card that is made up has an A in column 1
        int cards = x.card();                         // 1: one card is to be read
        x.set(1, 0, true);                            // a field from 1 on: reading lets word marks stay
        x.put(340, 0x01240A080A02080AL, 0b11);        // 1, M 080 280
        x.put(348, 0x023B00FFFFFFFFFFL, 0b111);       // 2, the halt, and the word mark behind it
        x.start(340);
        int reason = x.run(100);                      // 6: halted
        int first = x.printed(0, 1);                  // 49: lines count from 0, their positions from 1
        DUE.same("print: cards", 1, cards);
        DUE.same("print: reason", 6, reason);
        DUE.same("print: first", 49, first);
        DUE.same("print: lines", 1, x.count(1));
    }
}
