import java.io.ByteArrayOutputStream;
import java.io.IOException;
import java.io.PrintStream;
import java.nio.file.Files;
import java.nio.file.Path;
import java.util.ArrayList;
import java.util.Collections;
import java.util.List;

/** What README.md tells of the class: its example stands here too, and prints what README.md says. */
public final class ReadmeTest {
    private static final Path README = Path.of("README.md");
    private static final Path SOURCE = Path.of("src/test/java/ReadmeTest.java");

    public static void main(String[] args) throws IOException {
        List<String> here = stripped(Files.readAllLines(SOURCE));
        List<List<String>> told = blocks("```java");
        Expect.same("README.md's blocks of Java", 4, told.size());
        for (List<String> block : told) {
            int at = Collections.indexOfSubList(here, block);
            Expect.same("this test has README.md's block from " + block.get(0), 1, at >= 0 ? 1 : 0);
        }
        List<List<String>> printed = blocks("```text");
        Expect.same("README.md's blocks of what is printed", 1, printed.size());
        Expect.same("the example prints", String.join("\n", printed.get(0)), String.join("\n", run()));
        Expect.finish("ReadmeTest");
    }

    private static List<String> stripped(List<String> lines) {
        List<String> all = new ArrayList<>();
        for (String line : lines) {
            all.add(line.strip());
        }
        return all;
    }

    private static List<List<String>> blocks(String fence) throws IOException {
        List<List<String>> all = new ArrayList<>();
        List<String> block = null;
        for (String line : stripped(Files.readAllLines(README))) {
            if (block != null && line.equals("```")) {
                all.add(block);
                block = null;
            } else if (block != null) {
                block.add(line);
            } else if (line.equals(fence)) {
                block = new ArrayList<>();
            }
        }
        return all;
    }

    private static List<String> run() {
        PrintStream out = System.out;
        ByteArrayOutputStream bytes = new ByteArrayOutputStream();
        System.setOut(new PrintStream(bytes, true));
        try {
            example();
        } finally {
            System.setOut(out);
        }
        return bytes.toString().lines().toList();
    }

    private static void example() {
        RelationDesk desk = new RelationDesk();
        int pets = desk.table(2);                 // a table of two columns: its number, 0
        int[][] rows = {{1, 10}, {2, 20}, {1, 30}};
        for (int[] row : rows) {
            desk.stage(0, row[0]);                // the row at hand, cell by cell; it stays
            desk.stage(1, row[1]);
            desk.insert(pets);                    // how many rows the table has now
        }
        System.out.println("rows " + desk.cell(pets, -1, 0) + ", the last one's column 1 is " + desk.cell(pets, 2, 1));

        // the sums of column 1 for each value of column 0, the greatest first
        int[] sums = {7, 1, 1, 10, 0, 1, 1, 0, pets};    // SORT 1 falling, GROUP 0 sum of 1, SCAN pets
        for (int word : sums) {
            desk.feed(word);
        }
        int columns = desk.prepare();
        int answer = desk.step(2);
        while (answer == 1 || answer == 2) {
            if (answer == 2) {
                System.out.println("the fuel is spent");
            } else {
                for (int i = 0; i < columns; i++) {
                    System.out.println("column " + i + " is " + desk.column(i));
                }
            }
            answer = desk.step(2);
        }
        System.out.println((answer == 0 ? "no more rows" : "OVER") + ", cost " + desk.cost());

        desk.begin();
        System.out.println("taken out: " + desk.delete(pets, 0, 1));
        System.out.println("changed: " + desk.change(pets, 8 * 0 + 1, 2, 25));    // column 1 becomes 25 where column 0 is 2
        System.out.println("rolled back: " + desk.rollback() + ", rows " + desk.cell(pets, -1, 0));

        for (int word : new int[] {6, 1, 2, 0, 5, 0, pets}) {    // DISTINCT, SELECT column 2, which pets has not
            desk.feed(word);
        }
        try {
            desk.prepare();
        } catch (IllegalArgumentException e) {
            System.out.println("wrong at word " + desk.place());
        }
    }
}
