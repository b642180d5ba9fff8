import java.io.File;
import java.lang.reflect.Method;
import java.lang.reflect.Modifier;
import java.nio.file.Files;
import java.nio.file.Path;
import java.util.Set;
import java.util.TreeSet;

/** README.md tells the truth: its examples answer what they say, and it names each call and each test. */
final class ReadmeTest {
    private static final String FENCE = "```";

    public static void main(String[] args) throws Exception {
        String readme = Files.readString(Path.of("README.md"));
        examples();
        examplesAreThoseOf(readme);
        namesEachCall(readme);
        namesEachTest(readme);
        Check.end();
    }

    /** The lines of the README, as they stand there; each answer that they tell is looked at below. */
    private static void examples() {
        JacquardDeck loom = new JacquardDeck();
        int pattern = loom.addPattern(2);              // 0: two rows
        loom.setRow(pattern, 0, 0b1010, 0, 5);         // hooks, colour, tension
        loom.setRow(pattern, 1, 0b0101, 1, 9);
        int punched = loom.compile(pattern);           // 2: a card for each row that needs a new one
        loom.addCone(0, 7, 400);                       // colour, lot, length
        loom.addCone(1, 7, 400);
        int order = loom.addOrder(pattern, 10);        // 0: ten rows, the pattern gone round
        loom.begin(order);
        int woven = loom.weave(10);                    // 10
        char state = loom.cut();                       // 's': sold
        Check.due("pattern", pattern, 0);
        Check.due("punched", punched, 2);
        Check.due("order", order, 0);
        Check.due("woven", woven, 10);
        Check.due("state", state, 's');

        int next = loom.addOrder(pattern, 6);          // 1
        loom.begin(next);
        loom.weave(2);
        int slipped = loom.slip(0, 3);                 // 0b0010: card 0 as it is now
        loom.weave(2);
        int fault = loom.look(8);                      // 2: the first row that is not right
        loom.punch(0);
        int onLoom = loom.recover();                   // 1: the order that is on the loom then
        int right = loom.rightRows(next);              // 2: the rows that stayed
        int worn = loom.wearOfThread(0, 0);            // 1
        int rest = loom.weave(60);                     // 4: as far as there are cards, threads and rows
        Check.due("next", next, 1);
        Check.due("slipped", slipped, 0b0010);
        Check.due("fault", fault, 2);
        Check.due("onLoom", onLoom, 1);
        Check.due("right", right, 2);
        Check.due("worn", worn, 1);
        Check.due("rest", rest, 4);

        loom.type('c');
        loom.type('u');
        int letters = loom.type('t');                  // 3
        boolean done = loom.doWord();                  // true
        char cutByWord = loom.stateOf(next);           // 's'
        boolean sound = loom.isSound();                // true
        Check.due("letters", letters, 3);
        Check.due("done", done, true);
        Check.due("cutByWord", cutByWord, 's');
        Check.due("sound", sound, true);
    }

    private static void examplesAreThoseOf(String readme) throws Exception {
        Set<String> own = new TreeSet<>();
        for (String line : Files.readAllLines(Path.of("src/test/java/ReadmeTest.java"))) {
            own.add(line.trim());
        }
        boolean inExample = false;
        int lines = 0;
        for (String line : readme.split("\n")) {
            if (line.startsWith(FENCE)) {
                inExample = line.equals(FENCE + "java");
            } else if (inExample) {
                lines++;
                Check.due("README's line is tried here: " + line, own.contains(line.trim()), true);
            }
        }
        Check.due("README has examples", lines > 0, true);
    }

    private static void namesEachCall(String readme) {
        for (Method method : JacquardDeck.class.getDeclaredMethods()) {
            if (Modifier.isPublic(method.getModifiers())) {
                Check.due("README names " + method.getName(), readme.contains("`" + method.getName() + "`"), true);
            }
        }
    }

    private static void namesEachTest(String readme) {
        File[] files = new File("src/test/java").listFiles();
        Check.due("there are tests", files != null && files.length > 0, true);
        for (File file : files == null ? new File[0] : files) {
            String name = file.getName().replace(".java", "");
            if (name.endsWith("Test")) {
                Check.due("README names " + name, readme.contains("| `" + name + "` |"), true);
            }
        }
    }
}
