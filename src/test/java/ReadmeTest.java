import java.io.IOException;
import java.lang.reflect.Method;
import java.lang.reflect.Modifier;
import java.nio.file.Files;
import java.nio.file.Path;
import java.util.ArrayList;
import java.util.List;

/** The example in README.md is the one that is run here, its answers are true, and no method is left out. */
public final class ReadmeTest {
    private static final Path README = Path.of("README.md");
    private static final Path THIS = Path.of("src/test/java/ReadmeTest.java");

    public static void main(String[] args) throws IOException {
        Due due = new Due();
        example(due);
        sameExample(due);
        everyMethod(due);
        due.finish();
    }

    private static void example(Due due) {
        // example
        ChecksumLab lab = new ChecksumLab();
        int crc32 = lab.define(32, 0x04C11DB7, -1, true, true, -1);
        int crc16 = lab.define(16, 0x1021, 0xFFFF, false, false, 0);
        int check = lab.check(crc16);                          // 0x29B1

        lab.appendSeries(0, 49, 1, 9);                         // row 0 holds the bytes 49, 50, .. 57
        int first = lab.sum(crc32, 0);                         // 0xCBF43926
        lab.append(1, 33);                                     // row 1 holds the byte 33
        int second = lab.sum(crc32, 1);
        int both = lab.joined(crc32, first, second, lab.length(1));
        lab.appendRow(0, 1);                                   // row 0 holds 10 bytes
        int whole = lab.sum(crc32, 0);                         // the same as both

        int before = lab.setByte(0, 2, 51 ^ 64);               // 51: bit 6 of byte 2 is now wrong
        int after = lab.sum(crc32, 0);
        int patched = lab.patched(crc32, whole, 7, 64);        // the same as after: 7 bytes are behind it
        int place = lab.wrongBit(crc32, whole ^ after, 10);    // 22: the register takes 16 bits, then bits 0 to 5
        int nowhere = lab.wrongBit(crc32, 0, 10);              // ChecksumLab.NONE

        lab.truncate(0, 0);
        lab.appendSeries(0, 10, 10, 4);                        // row 0 holds 10, 20, 30, 40
        int window = lab.adler(0);                             // 0x00CC0065
        int next = lab.adlerRolled(window, 4, 10, 50);         // the sum of 20, 30, 40, 50
        // end of the example
        due.answer("check", check, 0x29B1);
        due.answer("first", first, 0xCBF43926);
        due.answer("both", both, whole);
        due.answer("before", before, 51);
        due.answer("patched", patched, after);
        due.answer("place", place, 22);
        due.answer("nowhere", nowhere, ChecksumLab.NONE);
        due.answer("window", window, 0x00CC0065);
        lab.truncate(0, 0);
        lab.appendSeries(0, 20, 10, 4);
        due.answer("next", next, lab.adler(0));
    }

    private static void sameExample(Due due) throws IOException {
        List<String> run = between(Files.readAllLines(THIS), "        // example", "        // end of the example", 8);
        List<String> shown = between(Files.readAllLines(README), "```java", "```", 0);
        due.answer("lines of the example", shown.size(), run.size());
        for (int line = 0; line < Math.min(run.size(), shown.size()); line++) {
            due.same("line " + line + " of the example", shown.get(line), run.get(line));
        }
    }

    private static void everyMethod(Due due) throws IOException {
        String text = Files.readString(README);
        for (Method method : ChecksumLab.class.getDeclaredMethods()) {
            if (Modifier.isPublic(method.getModifiers())) {
                due.answer("README.md tells of " + method.getName(),
                        text.contains("| `" + method.getName() + "(") ? 1 : 0, 1);
            }
        }
    }

    private static List<String> between(List<String> lines, String begin, String end, int indent) {
        List<String> found = new ArrayList<>();
        boolean inside = false;
        for (String line : lines) {
            if (inside && line.equals(end)) {
                break;
            }
            if (inside) {
                found.add(line.substring(Math.min(indent, line.length())));
            }
            inside = inside || line.equals(begin);
        }
        return found;
    }
}
