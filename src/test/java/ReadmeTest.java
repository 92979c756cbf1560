import java.io.IOException;
import java.lang.reflect.InvocationTargetException;
import java.lang.reflect.Method;
import java.net.URL;
import java.net.URLClassLoader;
import java.nio.file.Files;
import java.nio.file.Path;
import java.util.ArrayList;
import java.util.List;
import java.util.Set;
import java.util.TreeSet;
import java.util.regex.Matcher;
import java.util.regex.Pattern;
import java.util.stream.Stream;
import javax.tools.JavaCompiler;
import javax.tools.ToolProvider;

/** README.md: the answers in its blocks are the class's own, and its lists leave out no call and no test. */
public final class ReadmeTest {
  private static final Checks C = new Checks();
  private static final Pattern BLOCK = Pattern.compile("(?s)```java\n(.*?)```");
  private static final Pattern ANSWERED =
      Pattern.compile("\\s*(x\\.\\w+\\([^)]*\\));\\s*//\\s*(-?\\d+|true|false|NoSuchElementException)(?:\\W.*)?");
  private static final Pattern CALL = Pattern.compile("x\\.(\\w+)\\(");

  public static void main(String[] args) throws Exception {
    String page = Files.readString(Path.of("README.md"));
    blocksAnswerAsTheySay(page);
    refusalsAreAllNamed(page);
    testsAreAllNamed(page);
    C.end("readme");
  }

  private static void blocksAnswerAsTheySay(String page) throws Exception {
    StringBuilder b = new StringBuilder("final class ReadmeBlocks {\n");
    List<List<String>> due = new ArrayList<>();
    Matcher block = BLOCK.matcher(page);
    while (block.find()) {
      due.add(new ArrayList<>());
      b.append(methodOf(block.group(1), due.size() - 1, due.get(due.size() - 1)));
    }
    C.begin("README, blocks");
    C.due("there are some", due.size() >= 4, true);
    Path at = Files.createTempDirectory("readme");
    try {
      Class<?> blocks = compiled(at, b.append("}\n").toString());
      for (int i = 0; i < due.size(); i++) {
        Method m = blocks.getDeclaredMethod("block" + i, List.class);
        m.setAccessible(true);
        List<String> got = new ArrayList<>();
        try {
          m.invoke(null, got);
        } catch (InvocationTargetException e) {
          C.due("block " + i, e.getCause(), "no exception");
        }
        for (int k = 0; k < due.get(i).size(); k++) {
          C.due("block " + i + ", answer " + k, k < got.size() ? got.get(k) : "nothing", due.get(i).get(k));
        }
      }
    } finally {
      clear(at);
    }
  }

  /** A method that does a block's lines and lists each answer behind its call; what is due comes into the list. */
  private static String methodOf(String block, int number, List<String> due) {
    StringBuilder b = new StringBuilder("  static void block" + number + "(java.util.List<String> got) {\n");
    for (String line : block.split("\n")) {
      Matcher m = ANSWERED.matcher(line);
      if (!m.matches()) {
        C.begin("README, blocks");
        C.due("an answer stands behind each call: " + line, CALL.matcher(line).find(), false);
        b.append("    ").append(line).append('\n');
        continue;
      }
      String call = m.group(1);
      due.add(call + " = " + m.group(2));
      b.append("    try {\n      got.add(\"").append(call).append(" = \" + ").append(call).append(");\n");
      b.append("    } catch (java.util.NoSuchElementException e) {\n      got.add(\"").append(call);
      b.append(" = NoSuchElementException\");\n    }\n");
    }
    return b.append("  }\n").toString();
  }

  private static Class<?> compiled(Path at, String source) throws Exception {
    Path file = at.resolve("ReadmeBlocks.java");
    Files.writeString(file, source);
    JavaCompiler javac = ToolProvider.getSystemJavaCompiler();
    C.due("there is a compiler", javac != null, true);
    String path = System.getProperty("java.class.path");
    C.due("compiled", javac.run(null, null, null, "-d", at.toString(), "-cp", path, file.toString()), 0);
    URLClassLoader loader = new URLClassLoader(new URL[] {at.toUri().toURL()}, ReadmeTest.class.getClassLoader());
    return loader.loadClass("ReadmeBlocks");
  }

  private static void clear(Path at) throws IOException {
    List<Path> all;
    try (Stream<Path> files = Files.walk(at)) {
      all = new ArrayList<>(files.sorted().toList());
    }
    for (int i = all.size() - 1; i >= 0; i--) {
      Files.delete(all.get(i));
    }
  }

  /** Each call of the face stands either in the table of refusals or in the line of those that are never refused. */
  private static void refusalsAreAllNamed(String page) {
    C.begin("README, refusals");
    String part = page.substring(page.indexOf("## What a call answers that is refused"), page.indexOf("## How to run its tests"));
    Set<String> named = new TreeSet<>();
    Matcher line = Pattern.compile("(?m)^\\| (`\\w+`(?:, `\\w+`)*) \\|").matcher(part);
    while (line.find()) {
      named.addAll(words(line.group(1)));
    }
    int never = part.indexOf("Never refused:");
    named.addAll(words(part.substring(never, part.indexOf('.', never))));
    Set<String> face = new TreeSet<>();
    for (Method m : GluedSolids.class.getMethods()) {
      if (m.getDeclaringClass() == GluedSolids.class) {
        face.add(m.getName());
      }
    }
    C.due("each call is named", named, face);
  }

  private static Set<String> words(String text) {
    Set<String> all = new TreeSet<>();
    Matcher m = Pattern.compile("`(\\w+)`").matcher(text);
    while (m.find()) {
      all.add(m.group(1));
    }
    return all;
  }

  private static void testsAreAllNamed(String page) throws IOException {
    C.begin("README, tests");
    String part = page.substring(page.indexOf("## How to run its tests"));
    C.due("how to run all", part.contains("\n.ci/run\n"), true);
    Set<String> named = new TreeSet<>();
    Matcher m = Pattern.compile("`(\\w+Test)\\b").matcher(part);
    while (m.find()) {
      named.add(m.group(1));
    }
    Set<String> there = new TreeSet<>();
    try (Stream<Path> files = Files.list(Path.of("src/test/java"))) {
      files.map(f -> f.getFileName().toString()).filter(f -> f.endsWith("Test.java")).forEach(f -> there.add(f.substring(0, f.length() - 5)));
    }
    C.due("each test is named", named, there);
  }
}
