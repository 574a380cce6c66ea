import java.nio.charset.StandardCharsets;
import java.nio.file.Files;
import java.nio.file.Path;
import java.util.ArrayList;
import java.util.List;
import java.util.regex.Matcher;
import java.util.regex.Pattern;

/** Runs the lines of use of README.md, and compares their answers with those written there. Runs in the root. */
public final class ReadmeTest extends Checks {
    private static final Pattern ANSWER = Pattern.compile("int (\\w+) = .*; +// (-?\\d+)(:.*)?");

    /** The answers of README.md's lines, in their order; the lines between the marks are those of README.md. */
    private static int[] answers() {
        // README begins
        HallHeating hall = new HallHeating();
        int room = hall.addRoom(3, 9, 2, 10);               // 0: size 3, loss 9, power 2, at 10 degrees
        int choir = hall.addGroup();                        // 0
        int scouts = hall.addGroup();                       // 1
        int evening = hall.book(room, choir, 6, 2, 18);     // 0: the hours 6 and 7, 18 degrees
        int night = hall.book(room, scouts, 8, 1, 18);      // 1: the hour right behind them
        int begins = hall.begins(evening);                  // 2: the hour in which heating begins for it
        int more = hall.cost(room, scouts, 9, 1, 18);       // 4: one hour more, with the pilot flame
        int willOwe = hall.willOwe(choir);                  // 18
        int counted = hall.pass(7);                         // 32: units on the meter in the hours 0 to 6
        int owed = hall.owes(choir);                        // 27: 24 for preheating, 3 for the hour 6
        int empty = hall.prove(room, true);                 // 0: nobody came in the hour 7, so the parish pays
        int hourSeven = hall.pass(1);                       // 4
        int parish = hall.about(7);                         // 3
        int left = hall.owes(choir);                        // 15: half of the preheating went to the scouts
        int taken = hall.owes(scouts);                      // 12
        int rest = hall.about(8);                           // 6: an hour of the pilot flame each
        int remembered = hall.undo();                       // 7: the hour 7 is ahead again, with its mark
        int saved = hall.save(0);                           // 7: the hour of now
        int paid = hall.pay(choir);                         // 27
        int restored = hall.restore(0);                     // 7: with what the choir owed
        String text = "Hr39210ggo+05b000060218b010080118";
        for (char c : text.toCharArray()) hall.append(c);
        int error = hall.errorPosition();                   // -99: it is a hall
        int rooms = hall.load();                            // 1
        int bookings = hall.about(3);                       // 2
        int length = hall.clearText();                      // 33
        // README ends
        return new int[] {room, choir, scouts, evening, night, begins, more, willOwe, counted, owed, empty, hourSeven,
            parish, left, taken, rest, remembered, saved, paid, restored, error, rooms, bookings, length};
    }

    /** The lines between two marks, wherever there are such, without the blanks ahead of them. */
    private static List<String> between(String file, String begin, String end) throws Exception {
        List<String> found = new ArrayList<>();
        boolean inside = false;
        for (String line : Files.readAllLines(Path.of(file), StandardCharsets.UTF_8)) {
            String words = line.strip();
            if (inside && words.equals(end)) inside = false;
            if (inside) found.add(words);
            if (words.equals(begin)) inside = true;
        }
        return found;
    }

    private static String joined(List<String> lines) {
        return String.join("\n", lines);
    }

    public static void main(String[] args) throws Exception {
        says("README.md says how to use the class");
        List<String> written = between("README.md", "```java", "```");
        List<String> run = between("src/test/java/ReadmeTest.java", "// README begins", "// README ends");
        same("what README.md says", joined(written), joined(run));
        int[] answers = answers();
        int next = 0;
        for (String line : written) {
            Matcher m = ANSWER.matcher(line);
            if (!m.matches()) continue;
            if (next < answers.length) is(m.group(1), answers[next], Integer.parseInt(m.group(2)));
            next++;
        }
        is("answers that are written", next, answers.length);

        says("README.md says how to run its tests: each of them is named");
        String all = Files.readString(Path.of("README.md"), StandardCharsets.UTF_8);
        try (var tests = Files.list(Path.of("src/test/java"))) {
            for (Path test : tests.toList()) {
                String name = test.getFileName().toString().replace(".java", "");
                holds(name + " in README.md", all.contains("`" + name + "`"));
            }
        }
        end("ReadmeTest");
    }
}
