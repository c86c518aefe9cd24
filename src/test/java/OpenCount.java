import java.io.IOException;
import java.nio.file.Files;
import java.nio.file.Path;
import java.util.ArrayList;
import java.util.List;
import java.util.regex.Matcher;
import java.util.regex.Pattern;

/** Counts the calls that stand open in a copy of the class that tells it of each; and makes that copy. */
public final class OpenCount {
    private static final Pattern HEADER = Pattern.compile("( {4}| {8})(?:(?:public|private|static|final) )*+[\\w\\[\\]]+ (\\w+)\\(.*\\) \\{");
    static int most;
    private static int open;

    private OpenCount() {
    }

    public static void in() {
        open++;
        most = Math.max(most, open);
    }

    public static void out() {
        open--;
    }

    /** From the class's file to that of the copy. */
    public static void main(String[] args) throws IOException {
        List<String> copy = new ArrayList<>();
        int counted = 0;
        String end = null;
        for (String line : Files.readAllLines(Path.of(args[0]))) {
            Matcher header = HEADER.matcher(line);
            if (end == null && header.matches()) {
                counted++;
                end = header.group(1) + "}";
                copy.add(line + " OpenCount.in(); try {");
            } else if (line.equals(end)) {
                copy.add("} finally { OpenCount.out(); } }");
                end = null;
            } else {
                copy.add(line);
            }
        }
        Files.write(Path.of(args[1]), copy);
        if (counted != methodsOfTheClass()) {
            System.out.println(counted + " methods are counted, there are " + methodsOfTheClass());
            System.exit(1);
        }
    }

    private static int methodsOfTheClass() {
        int methods = RewriteHouse.class.getDeclaredMethods().length;
        for (Class<?> inside : RewriteHouse.class.getDeclaredClasses()) {
            methods += inside.getDeclaredMethods().length;
        }
        return methods;
    }
}
