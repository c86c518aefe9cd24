import java.io.IOException;
import java.nio.file.Files;
import java.nio.file.Path;

/**
 * Makes a copy of the class in which lists look ahead from their first step on, keep each dead end, and soon have no
 * more room for them: most lists of tests are too short to do so otherwise. From the class's file to that of the copy.
 */
final class EarlyOutlook {
    private static final String[][] CHANGES = {
        {"LONG_WORK = 1000", "LONG_WORK = 0"}, {"WORTH_KEEPING = 16", "WORTH_KEEPING = 0"}, {"MOST_ENDS = 262144", "MOST_ENDS = 4096"}};

    private EarlyOutlook() {
    }

    public static void main(String[] args) throws IOException {
        String text = Files.readString(Path.of(args[0]));
        for (String[] change : CHANGES) {
            int at = text.indexOf(change[0]);
            if (at < 0 || text.indexOf(change[0], at + 1) >= 0) {
                System.out.println(change[0] + " is not there once");
                System.exit(1);
            }
            text = text.replace(change[0], change[1]);
        }
        Files.writeString(Path.of(args[1]), text);
    }
}
