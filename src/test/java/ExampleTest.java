import java.io.IOException;
import java.nio.file.Files;
import java.nio.file.Path;

/** The example of README.md stands here line by line, and answers what README.md says. */
public final class ExampleTest {
    public static void main(String[] args) throws IOException {
        Check.same("the example of README.md", exampleOf("README.md", "```java", "```"),
            exampleOf("src/test/java/ExampleTest.java", "// README.md from here on", "// README.md until here"));
        example();
        Check.end();
    }

    /** The lines between the first line that is begin and the next one that is end, without what indents them. */
    private static String exampleOf(String file, String begin, String end) throws IOException {
        StringBuilder text = new StringBuilder();
        boolean isInside = false;
        for (String line : Files.readAllLines(Path.of(file))) {
            String bare = line.strip();
            if (isInside && bare.equals(end)) {
                return text.toString();
            }
            if (isInside) {
                text.append(bare).append('\n');
            }
            isInside |= bare.equals(begin);
        }
        return file + " has no example";
    }

    private static void example() {
        // README.md from here on
        StormPipes drains = new StormPipes(2);        // at most two nodes
        int high = drains.node(0, -1_000, 10);        // ground, bottom, room: node 0
        int low = drains.node(-500, -1_500, 20);      // node 1
        int pipe = drains.pipe(high, low, 100, 300);  // from, to, length, width: pipe 0
        drains.area(high, 60_000, 500);               // squares, loss: half of what falls comes to the node
        drains.pump(low, high, -1_400, -1_450, 7);    // on, off, rate: lifts 7 litres a second while it is on
        drains.gate(low, 200, 5);                     // height, rate: what stands above 200 mm goes out
        drains.street(high, 3);                       // what the node can't hold goes to cell 3 ..
        drains.gully(3, low, 2);                      // .. and from there down to the other node
        drains.rain(0, 1_500);                        // minute 0: 1.5 mm
        int passed = drains.run(60);                  // 60 seconds have passed
        long held = drains.told(low, 0);              // 20000 litres: it is full
        long moved = drains.flow(pipe, 1);            // 30721 litres in all
        long flooded = drains.cell(3);                // 4678 litres
        long rained = drains.litres(0);               // 45000 litres
        boolean keeps = drains.keeps();               // true: none of them is lost

        drains.list(100, 10);                         // width, price for a decimetre: entry 0
        drains.list(300, 25);                         // entry 1
        drains.begin(0, -1_500);                      // ground and bottom where the line begins
        drains.piece(-100, 200, 1);                   // ground at its end, length, need: piece 0
        drains.piece(-120, 150, 9);                   // piece 1
        long cost = drains.lay(500, 1);               // cover, dig: 499050
        int entry = drains.laid(1, 0);                // 1: piece 1 is 300 mm wide
        int fall = drains.laid(1, 1);                 // 15
        int bottom = drains.laid(1, 2);               // -1518
        // README.md until here
        Check.same("high", high, 0);
        Check.same("low", low, 1);
        Check.same("pipe", pipe, 0);
        Check.same("passed", passed, 60);
        Check.same("held", held, 20_000);
        Check.same("moved", moved, 30_721);
        Check.same("flooded", flooded, 4_678);
        Check.same("rained", rained, 45_000);
        Check.same("keeps", keeps, true);
        Check.same("cost", cost, 499_050);
        Check.same("entry", entry, 1);
        Check.same("fall", fall, 15);
        Check.same("bottom", bottom, -1_518);
    }
}
