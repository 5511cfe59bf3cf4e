import java.io.IOException;
import java.nio.file.Files;
import java.nio.file.Path;
import java.util.Arrays;
import java.util.List;
import java.util.TreeSet;
import java.util.regex.Matcher;
import java.util.regex.Pattern;

/** The calls that README.md shows, made one after the other, have the answers that it tells. */
public final class MajorityIndexReadme {
  private static final String BEGIN = "MajorityIndex x = new MajorityIndex();";
  private static final Pattern LINE =
      Pattern.compile("x\\.(\\w+)\\(([^)]*)\\);\\s+// (throws|NONE|NO_VALUE|-?\\d+)(: .*)?");
  private static int wrong = 0;

  public static void main(String[] args) throws IOException {
    MajorityIndex x = new MajorityIndex();
    TreeSet<String> missing = new TreeSet<>(Arrays.asList(Calls.NAMES));
    int made = 0;
    boolean inside = false;
    for (String line : Files.readAllLines(Path.of("README.md"))) {
      if (line.startsWith("```")) {
        inside = line.equals("```java");
      } else if (inside && !line.equals(BEGIN)) {
        missing.remove(answered(x, line));
        made++;
      }
    }
    if (!missing.isEmpty()) {
      fault("README.md does not show " + missing);
    }
    System.out.println(made + " calls of README.md, " + wrong + " faults");
    if (wrong != 0) {
      System.exit(1);
    }
  }

  private static void fault(String text) {
    wrong++;
    System.out.println(text);
  }

  /** Makes the call of a line: its name. */
  private static String answered(MajorityIndex x, String line) {
    Matcher m = LINE.matcher(line);
    if (!m.matches()) {
      fault("no call with its answer: " + line);
      return "";
    }
    List<String> names = Arrays.asList(Calls.NAMES);
    if (!names.contains(m.group(1))) {
      fault("no such call: " + line);
      return "";
    }
    String[] texts = m.group(2).isEmpty() ? new String[0] : m.group(2).split(", ");
    int[] call = new int[1 + texts.length];
    call[0] = names.indexOf(m.group(1));
    for (int i = 0; i < texts.length; i++) {
      call[i + 1] = (int) number(texts[i]);
    }
    long got = Calls.realAnswer(x, call);
    if (got != number(m.group(3))) {
      fault(line + " answered " + Calls.text(got));
    }
    return m.group(1);
  }

  private static long number(String text) {
    switch (text) {
      case "throws": return Model.THROWS;
      case "NONE": return MajorityIndex.NONE;
      case "NO_VALUE": return MajorityIndex.NO_VALUE;
      default: return Long.decode(text);
    }
  }
}
