import java.util.NoSuchElementException;

/** The class and the plain model side by side: the same calls, by name, to the one or the other. */
final class Both {
  final GluedSolids x = new GluedSolids();
  final PlainModel m = new PlainModel();

  /** Calls as a text, "one 0; edges", on both; the answers are not looked at. */
  void run(String calls) {
    for (String call : calls.split("; ")) {
      value(true, nameOf(call), argumentsOf(call));
      value(false, nameOf(call), argumentsOf(call));
    }
  }

  /** A call as a text, on both: its answer, and what is held behind it, must be the plain model's. */
  void compare(Checks c, String ahead, String call) {
    String got = answer(true, nameOf(call), argumentsOf(call));
    c.due(call + " behind " + ahead, got, answer(false, nameOf(call), argumentsOf(call)));
  }

  /** A call as a text, on the class alone. */
  Object askByText(String call) {
    return ask(nameOf(call), argumentsOf(call));
  }

  private static String nameOf(String call) {
    return call.split(" ")[0];
  }

  private static int[] argumentsOf(String call) {
    String[] words = call.split(" ");
    int[] a = new int[words.length - 1];
    for (int i = 0; i < a.length; i++) {
      a[i] = Integer.parseInt(words[i + 1]);
    }
    return a;
  }

  private String value(boolean real, String name, int... a) {
    try {
      return String.valueOf(real ? ask(name, a) : askModel(name, a));
    } catch (NoSuchElementException e) {
      return "NoSuchElementException";
    }
  }

  /** The answer, the ROW and the counts behind it, as one text. */
  String answer(boolean real, String name, int... a) {
    StringBuilder b = new StringBuilder(value(real, name, a)).append(" row");
    int many = real ? x.count(4) : m.count(4);
    for (int i = 0; i < many; i++) {
      b.append(' ').append(real ? x.row(i) : m.row(i));
    }
    b.append(" counts");
    for (int i = -1; i < 7; i++) {
      b.append(' ').append(real ? x.count(i) : m.count(i));
    }
    b.append(" glued");
    for (int t = 0; t < (real ? x.count(0) : m.count(0)); t++) {
      for (int f = 0; f < 4; f++) {
        for (int what = 0; what < 3; what++) {
          b.append(' ').append(real ? x.glued(t, f, what) : m.glued(t, f, what));
        }
      }
    }
    return b.toString();
  }

  private Object ask(String name, int[] a) {
    switch (name) {
      case "sign": return x.sign(a[0]);
      case "end": return x.end(a[0]);
      case "solid": return x.solid();
      case "glued": return x.glued(a[0], a[1], a[2]);
      case "shows": return x.shows();
      case "sheet": return x.sheet(a[0], a[1], a[2], a[3]);
      case "degree": return x.degree(a[0], a[1], a[2]);
      case "point": return x.point(a[0], a[1]);
      case "edges": return x.edges();
      case "points": return x.points();
      case "manifold": return x.manifold();
      case "sides": return x.sides();
      case "group": return x.group();
      case "euler": return x.euler();
      case "alike": return x.alike();
      case "two": return x.two(a[0], a[1]);
      case "three": return x.three(a[0], a[1], a[2]);
      case "one": return x.one(a[0]);
      case "four": return x.four(a[0], a[1]);
      case "trail": return x.trail();
      case "tries": return x.tries();
      case "comes": return x.comes();
      case "leads": return x.leads(a[0]);
      case "simpler": return x.simpler();
      case "way": return x.way(a[0], a[1], a[2]);
      case "drawn": return x.drawn(a[0], a[1]);
      case "undo": return x.undo();
      case "heard": return x.heard(a[0], a[1]);
      case "forget": return x.forget();
      case "fits": return x.fits();
      case "keep": return x.keep(a[0]);
      case "again": return x.again(a[0]);
      case "same": return x.same(a[0]);
      case "count": return x.count(a[0]);
      case "row": return x.row(a[0]);
      default: throw new IllegalStateException(name);
    }
  }

  private Object askModel(String name, int[] a) {
    switch (name) {
      case "sign": return m.sign(a[0]);
      case "end": return m.end(a[0]);
      case "solid": return m.solid();
      case "glued": return m.glued(a[0], a[1], a[2]);
      case "shows": return m.shows();
      case "sheet": return m.sheet(a[0], a[1], a[2], a[3]);
      case "degree": return m.degree(a[0], a[1], a[2]);
      case "point": return m.point(a[0], a[1]);
      case "edges": return m.edges();
      case "points": return m.points();
      case "manifold": return m.manifold();
      case "sides": return m.sides();
      case "group": return m.group();
      case "euler": return m.euler();
      case "alike": return m.alike();
      case "two": return m.two(a[0], a[1]);
      case "three": return m.three(a[0], a[1], a[2]);
      case "one": return m.one(a[0]);
      case "four": return m.four(a[0], a[1]);
      case "trail": return m.trail();
      case "tries": return m.tries();
      case "comes": return m.comes();
      case "leads": return m.leads(a[0]);
      case "simpler": return m.simpler();
      case "way": return m.way(a[0], a[1], a[2]);
      case "drawn": return m.drawn(a[0], a[1]);
      case "undo": return m.undo();
      case "heard": return m.heard(a[0], a[1]);
      case "forget": return m.forget();
      case "fits": return m.fits();
      case "keep": return m.keep(a[0]);
      case "again": return m.again(a[0]);
      case "same": return m.same(a[0]);
      case "count": return m.count(a[0]);
      case "row": return m.row(a[0]);
      default: throw new IllegalStateException(name);
    }
  }
}
