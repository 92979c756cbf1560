import java.util.NoSuchElementException;

/** What the tests share: texts for an object, its ROW as a text, and a count of wrong answers. */
final class Checks {
  private int wrong;
  private String part = "";

  void begin(String newPart) {
    part = newPart;
  }

  void due(String what, Object got, Object want) {
    if (!String.valueOf(got).equals(String.valueOf(want))) {
      wrong++;
      System.out.println(part + ": " + what + " answered " + got + ", due is " + want);
    }
  }

  /** Ends the program: exit code 1 if an answer was wrong. */
  void end(String name) {
    System.out.println(name + ": " + (wrong == 0 ? "all answers are as due" : wrong + " answers are not as due"));
    System.exit(wrong == 0 ? 0 : 1);
  }

  /** THE TEXT becomes these signs. */
  static void write(GluedSolids x, String text) {
    x.end(0);
    for (int i = 0; i < text.length(); i += 4) {
      int v = 0;
      for (int k = 0; k < 4; k++) {
        v = v << 8 | (i + k < text.length() ? text.charAt(i + k) & 255 : 0);
      }
      x.sign(v);
    }
    x.end(text.length());
  }

  static GluedSolids solidOf(String text) {
    GluedSolids x = new GluedSolids();
    write(x, text);
    x.solid();
    return x;
  }

  static int solid(GluedSolids x, String text) {
    write(x, text);
    return x.solid();
  }

  static int trail(GluedSolids x, String text) {
    write(x, text);
    return x.trail();
  }

  static int tries(GluedSolids x, String text) {
    write(x, text);
    return x.tries();
  }

  static String row(GluedSolids x) {
    StringBuilder b = new StringBuilder();
    for (int i = 0; i < x.count(4); i++) {
      b.append(i == 0 ? "" : " ").append(x.row(i));
    }
    return b.toString();
  }

  /** THE SOLID as a text; this changes the ROW. */
  static String shown(GluedSolids x) {
    StringBuilder b = new StringBuilder();
    int signs = x.shows();
    for (int i = 0; i < signs; i++) {
      b.append((char) x.row(i));
    }
    return b.toString();
  }

  static String glued(GluedSolids x, int tet, int f, int what) {
    try {
      return "" + x.glued(tet, f, what);
    } catch (NoSuchElementException e) {
      return "none";
    }
  }

  static String rowAt(GluedSolids x, int i) {
    try {
      return "" + x.row(i);
    } catch (NoSuchElementException e) {
      return "none";
    }
  }
}
