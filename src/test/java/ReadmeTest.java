import java.io.IOException;
import java.lang.reflect.InvocationTargetException;
import java.net.URL;
import java.net.URLClassLoader;
import java.nio.file.Files;
import java.nio.file.Path;
import java.util.ArrayList;
import java.util.List;
import java.util.regex.Matcher;
import java.util.regex.Pattern;
import javax.tools.JavaCompiler;
import javax.tools.ToolProvider;

/**
 * The examples in README.md answer as it says: each is made into a method, compiled and run. Behind
 * every call that answers must stand "answers .." or "throws ..", so that none goes unlooked at.
 */
public final class ReadmeTest {
  private static final String NAME = "ReadmeExamples";
  private static final Pattern LINE = Pattern.compile("((?:int|long|boolean) (\\w+) = )?(.+?);(?: *// (.*))?");
  private static final Pattern TOLD = Pattern.compile("(answers|throws) ([-\\w]+)(?:: (.*))?");
  private static final Pattern BYTES = Pattern.compile("(?:.*? )??([0-9A-F]{2}(?: [0-9A-F]{2})+)");
  private static final Pattern SILENT = Pattern.compile("InstructionCoder x = new InstructionCoder\\(\\)|x\\.(op|memory|number)\\(.*\\)");
  private static final Pattern FEED = Pattern.compile("x\\.feed\\((\\w+), (\\d+)\\)");

  private final Check check = new Check();
  private final StringBuilder source = new StringBuilder();
  private int examples = 0;

  public static void main(String[] args) throws IOException, ReflectiveOperationException {
    ReadmeTest test = new ReadmeTest();
    test.writeExamples(Files.readAllLines(Path.of("README.md")));
    test.runExamples();
    test.check.end();
  }

  private void writeExamples(List<String> readme) {
    source.append("public final class ").append(NAME).append(" {\n");
    boolean inside = false;
    for (int i = 0; i < readme.size(); i++) {
      String line = readme.get(i);
      if (line.equals("```java")) {
        inside = true;
        examples++;
        source.append("public static void example").append(examples).append("(java.util.List<String[]> out) {\n");
      } else if (inside && line.equals("```")) {
        inside = false;
        source.append("}\n");
      } else if (inside) {
        writeLine("README.md, line " + (i + 1) + ": ", line);
      }
    }
    source.append("static String octets(InstructionCoder x) { StringBuilder s = new StringBuilder();\n")
        .append("for (int i = 0; x.octet(i) >= 0; i++) s.append(i > 0 ? \" \" : \"\").append(String.format(\"%02X\", x.octet(i)));\n")
        .append("return s.toString(); }\n")
        .append("static void due(java.util.List<String[]> out, String call, Object got, String want) {\n")
        .append("out.add(new String[] {call, String.valueOf(got), want}); }\n}\n");
  }

  private void writeLine(String where, String line) {
    Matcher parts = LINE.matcher(line);
    if (!parts.matches()) {
      check.due(where + line, "no call", "a call on one line");
      return;
    }
    String call = parts.group(3);
    Matcher told = TOLD.matcher(parts.group(4) == null ? "" : parts.group(4));
    if (!told.matches()) {
      check.due(where + line + " tells its answer or has none", SILENT.matcher(call).matches(), true);
      source.append(call).append(";\n");
    } else if (told.group(1).equals("throws")) {
      source.append("try { ").append(call).append("; ").append(due(where + call, "\"nothing thrown\"", told.group(2)))
          .append(" } catch (RuntimeException e) { ").append(due(where + call, "e.getClass().getSimpleName()", told.group(2))).append(" }\n");
    } else {
      if (parts.group(1) != null) source.append(parts.group(1)).append(call).append(";\n");
      writeAnswer(where + call, parts.group(2), call, told);
    }
  }

  private void writeAnswer(String where, String name, String call, Matcher told) {
    String want = told.group(2);
    boolean number = !want.equals("true") && !want.equals("false");
    source.append(due(where, name == null ? call : name, number ? Long.decode(want).toString() : want)).append('\n');
    Matcher bytes = BYTES.matcher(told.group(3) == null ? "" : told.group(3));
    if (!bytes.matches()) return;
    Matcher feed = FEED.matcher(call);
    if (call.equals("x.encode()")) {
      source.append(due(where + ", its bytes", "octets(x)", bytes.group(1))).append('\n');
    } else if (feed.matches()) {
      check.due(where + ", its bytes", fed(feed.group(1).replace("L", ""), Integer.parseInt(feed.group(2))), bytes.group(1));
    } else {
      check.due(where + " tells bytes", false, true);
    }
  }

  private static String due(String where, String got, String want) {
    return "due(out, \"" + where + "\", " + got + ", \"" + want + "\");";
  }

  private static String fed(String word, int count) {
    int[] row = new int[count];
    for (int i = 0; i < count; i++) row[i] = (int) (Long.decode(word) >> 8 * (count - 1 - i)) & 255;
    return Check.hex(row, count);
  }

  private void runExamples() throws IOException, ReflectiveOperationException {
    check.due("README.md has examples", examples > 0, true);
    Path room = Files.createTempDirectory(NAME);
    Path file = room.resolve(NAME + ".java");
    Files.writeString(file, source);
    JavaCompiler javac = ToolProvider.getSystemJavaCompiler();
    String path = System.getProperty("java.class.path");
    int code = javac.run(null, null, null, "--release", "17", "-cp", path, "-d", room.toString(), file.toString());
    check.due("javac of the examples in README.md", code, 0);
    if (code == 0) {
      try (URLClassLoader loader = new URLClassLoader(new URL[] {room.toUri().toURL()})) {
        Class<?> made = loader.loadClass(NAME);
        for (int k = 1; k <= examples; k++) runExample(made, k);
      }
    }
    Files.deleteIfExists(room.resolve(NAME + ".class"));
    Files.delete(file);
    Files.delete(room);
  }

  private void runExample(Class<?> made, int k) throws ReflectiveOperationException {
    List<String[]> answers = new ArrayList<>();
    try {
      made.getMethod("example" + k, List.class).invoke(null, answers);
    } catch (InvocationTargetException e) {
      check.due("example " + k + " behind its answer " + answers.size(), e.getCause(), "nothing thrown");
    }
    check.due("example " + k + " has answers", answers.isEmpty(), false);
    for (String[] answer : answers) check.due(answer[0], answer[1], answer[2]);
  }
}
