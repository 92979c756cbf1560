import java.io.IOException;
import java.lang.reflect.Constructor;
import java.lang.reflect.Field;
import java.lang.reflect.Method;
import java.lang.reflect.Modifier;
import java.nio.file.Files;
import java.nio.file.Path;
import java.util.Arrays;
import java.util.HashMap;
import java.util.Map;
import java.util.Set;
import java.util.TreeSet;
import java.util.regex.Matcher;
import java.util.regex.Pattern;

/** The public face is the document's and no more, and the file keeps to the rules that can be seen in its text. */
public final class FaceTest {
  private static final Checks C = new Checks();
  private static final String[] FACE = {
    "int sign(int)", "boolean end(int)", "int solid()", "int glued(int,int,int)", "int shows()", "int sheet(int,int,int,int)",
    "int degree(int,int,int)", "int point(int,int)", "int edges()", "int points()", "int manifold()", "int sides()", "int group()",
    "int euler()", "int alike()", "int two(int,int)", "int three(int,int,int)", "int one(int)", "int four(int,int)", "int trail()",
    "int tries()", "int comes()", "int leads(int)", "int simpler()", "int way(int,int,int)", "int drawn(int,int)", "int undo()",
    "int heard(int,int)", "int forget()", "int fits()", "boolean keep(int)", "boolean again(int)", "int same(int)", "int count(int)",
    "long row(int)",
  };

  public static void main(String[] args) throws IOException {
    faceIsTheDocuments();
    faceIsAsTheDocumentWritesIt();
    classesKeepToTheRules();
    textKeepsToTheRules();
    callsKeepToTheRules();
    C.end("face");
  }

  private static String told(Method m) {
    StringBuilder b = new StringBuilder(m.getReturnType() + " " + m.getName() + "(");
    for (int i = 0; i < m.getParameterCount(); i++) {
      b.append(i == 0 ? "" : ",").append(m.getParameterTypes()[i]);
    }
    return b.append(")").toString();
  }

  private static void faceIsTheDocuments() {
    C.begin("rule 1");
    Set<String> open = new TreeSet<>();
    for (Method m : GluedSolids.class.getDeclaredMethods()) {
      if (!Modifier.isPrivate(m.getModifiers()) && !m.isSynthetic()) {
        open.add(told(m));
      }
    }
    C.due("methods", open, new TreeSet<>(Arrays.asList(FACE)));
    C.due("final", Modifier.isFinal(GluedSolids.class.getModifiers()) && Modifier.isPublic(GluedSolids.class.getModifiers()), true);
    Constructor<?>[] made = GluedSolids.class.getDeclaredConstructors();
    C.due("constructors", made.length + " " + made[0].getParameterCount() + " " + Modifier.isPublic(made[0].getModifiers()), "1 0 true");
    for (Field f : GluedSolids.class.getDeclaredFields()) {
      boolean isConstant = f.getName().equals("NONE");
      C.due("field " + f.getName(), Modifier.isPrivate(f.getModifiers()), !isConstant);
    }
    C.due("NONE", GluedSolids.NONE, -1);
  }

  /** Each line of the document's face, what it throws too, against the class. */
  private static void faceIsAsTheDocumentWritesIt() throws IOException {
    String page = Files.readString(Path.of("../shared/DOC.md"));
    int at = page.indexOf("public final class GluedSolids {");
    C.begin("the document's face");
    C.due("it is there", at >= 0, true);
    Set<String> written = new TreeSet<>();
    Matcher line = Pattern.compile("(?m)^ +public ((?:int|long|boolean) \\w+\\([^)]*\\)(?: throws \\w+)?);").matcher(page.substring(at));
    while (line.find()) {
      written.add(line.group(1).replaceAll("(int|long) \\w+(?=[,)])", "$1").replace(", ", ","));
    }
    Set<String> there = new TreeSet<>();
    for (Method m : GluedSolids.class.getDeclaredMethods()) {
      if (Modifier.isPublic(m.getModifiers())) {
        StringBuilder b = new StringBuilder(told(m));
        for (Class<?> e : m.getExceptionTypes()) {
          b.append(" throws ").append(e.getSimpleName());
        }
        there.add(b.toString());
      }
    }
    C.due("calls", there, written);
    C.due("how many", written.size(), FACE.length);
    C.due("the constant", page.contains("public static final int NONE = " + GluedSolids.NONE + ";"), true);
  }

  private static Set<String> namesOfTheFace() {
    Set<String> names = new TreeSet<>();
    for (String f : FACE) {
      names.add(f.substring(f.indexOf(' ') + 1, f.indexOf('(')));
    }
    return names;
  }

  private static void classesKeepToTheRules() {
    Set<String> names = namesOfTheFace();
    C.begin("rule 1");
    for (Method m : GluedSolids.class.getDeclaredMethods()) {
      boolean isHidden = Modifier.isPrivate(m.getModifiers());
      C.due("a private " + m.getName() + " beside a public one", isHidden && names.contains(m.getName()), false);
    }
    Class<?>[] inside = GluedSolids.class.getDeclaredClasses();
    C.begin("rule 11");
    C.due("at most twelve classes", inside.length + 1 <= 12, true);
    for (Class<?> c : inside) {
      C.begin("class " + c.getSimpleName());
      C.due("static", Modifier.isStatic(c.getModifiers()), true);
      C.due("at most twenty fields", c.getDeclaredFields().length <= 20, true);
      for (Method m : c.getDeclaredMethods()) {
        C.due("a name of the face: " + m.getName(), names.contains(m.getName()), false);
        C.due("parameters of " + m.getName(), m.getParameterCount() <= 7, true);
      }
      for (Field f : c.getDeclaredFields()) {
        C.due("static " + f.getName() + " is final", !Modifier.isStatic(f.getModifiers()) || Modifier.isFinal(f.getModifiers()), true);
      }
    }
  }

  private static String code() throws IOException {
    String text = Files.readString(Path.of("src/main/java/GluedSolids.java"));
    return text.replaceAll("(?s)/\\*.*?\\*/", "").replaceAll("//[^\n]*", "");
  }

  private static void textKeepsToTheRules() throws IOException {
    String code = code();
    C.begin("words that the rules leave out");
    String[] out = {
      "->", "::", "\\btry\\b", "\\bcatch\\b", "\\bfinally\\b", "\\bsynchronized\\b", "\\bassert\\b", "\\bstatic\\s*\\{", "\\bMAX_VALUE\\b",
      "Exact\\b", "\\bSystem\\.(?!arraycopy)", "\\bdouble\\b", "\\bfloat\\b", "\\bwhile\\b", "\\bpackage\\b", "\\bString\\b",
    };
    for (String word : out) {
      C.due(word, Pattern.compile(word).matcher(code).find(), false);
    }
    C.begin("rule 11");
    Matcher m = Pattern.compile("(?m)^( {4,8})(?:\\w[\\w\\[\\]]* )*(\\w+)\\([^;{]*\\{\n(.*?)\n\\1\\}", Pattern.DOTALL).matcher(code);
    int methods = 0;
    for (int from = 0; m.find(from); from = m.end()) {
      methods++;
      C.due("lines of " + m.group(2), m.group(3).split("\n").length <= 60, true);
    }
    C.due("methods were seen", methods > 100, true);
    C.begin("rule 4");
    Set<String> imports = new TreeSet<>();
    Matcher i = Pattern.compile("(?m)^import ([^;]+);").matcher(code);
    while (i.find()) {
      imports.add(i.group(1));
    }
    C.due("imports", imports, "[java.util.Arrays, java.util.NoSuchElementException]");
    Set<String> used = new TreeSet<>();
    Matcher u = Pattern.compile("\\b(Integer|Long|Math|System|Arrays|Character|Boolean|Object|Thread|Class)\\.(\\w+)").matcher(code);
    while (u.find()) {
      used.add(u.group());
    }
    C.due("of the library", used, "[Arrays.fill, Integer.bitCount, Math.abs, Math.max, Math.min, System.arraycopy]");
    C.begin("rule 6");
    Set<String> thrown = new TreeSet<>();
    Matcher t = Pattern.compile("\\bthrow\\b[^;]*;").matcher(code);
    while (t.find()) {
      thrown.add(t.group());
    }
    C.due("what is thrown", thrown, "[throw new NoSuchElementException();]");
  }

  /** By names alone: methods of like names count as one, so this finds no fewer levels than there are. */
  private static void callsKeepToTheRules() throws IOException {
    Map<String, Set<String>> calls = new HashMap<>();
    Pattern method = Pattern.compile("(?m)^( {4,8})(?:\\w[\\w\\[\\]]* )+(\\w+)\\([^;{]*\\{\n(.*?)\n\\1\\}", Pattern.DOTALL);
    String code = code();
    Matcher m = method.matcher(code);
    for (int from = 0; m.find(from); from = m.end()) {
      Set<String> called = calls.computeIfAbsent(m.group(2), name -> new TreeSet<>());
      Matcher c = Pattern.compile("\\b(\\w+)\\(").matcher(m.group(3).replaceAll("\\b(Arrays|Math|System|Integer)\\.\\w+", ""));
      while (c.find()) {
        called.add(c.group(1));
      }
    }
    C.begin("rules 8 and 11");
    C.due("methods were seen", calls.size() > 100, true);
    for (String name : namesOfTheFace()) {
      C.due("calls of " + name + " go at most eight deep", depth(calls, name, 0) <= 8, true);
    }
  }

  /** How many calls stand open at once; a recursion counts as far too many. */
  private static int depth(Map<String, Set<String>> calls, String name, int open) {
    int deepest = 0;
    if (open < 40) {
      for (String called : calls.getOrDefault(name, Set.of())) {
        deepest = Math.max(deepest, calls.containsKey(called) ? depth(calls, called, open + 1) : 0);
      }
    }
    return deepest + 1;
  }
}
