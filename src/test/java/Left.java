import java.util.ArrayList;
import java.util.List;

/**
 * What a call leaves as it was. The same calls make two objects, one of them gets the call that is looked at, and both
 * are asked for all that they hold: two objects, since to ask for all is to use an object up.
 */
final class Left {
  /** Two TETS, each FACE glued to the other's: a sphere. */
  static final String BALLS = "2001a011a021a031a";
  /** One TET with one POINT, all FACES GLUED. */
  static final String FIVE = "1000j020n";
  /** Eight TETS in a line, 18 FACES free. */
  static final String LINE = "8001a112a223a304a415a526a637a";
  /** Eight TETS, no FACE free, one EDGE of DEGREE 48; as THE SOLID shows it. */
  static final String ONE_EDGE = "8000i021a032a102b113a134a214w225a306a324o337a415t516f537x617o627g";

  private static final String[] NAMES = {"THE SOLID", "THE ROW", "THE TEXT", "what was heard", "what is kept", "what can be undone"};
  static final int THE_ROW = 1;
  private static final int THE_TEXT = 2;

  private Left() {
  }

  /** Calls on an object; the answer of the last one. */
  interface Calls {
    Object on(GluedSolids x);
  }

  /** A new object. */
  static Object fresh(GluedSolids x) {
    return "fresh";
  }

  /** Of everything some: three TETS, three to undo, two heard, one kept, a ROW of five numbers, eight signs. */
  static Object some(GluedSolids x) {
    Checks.solid(x, FIVE);
    x.keep(0);
    Checks.solid(x, BALLS);
    x.two(0, 0);
    x.heard(0, 2);
    x.heard(3, 0);
    x.edges();
    Checks.write(x, "t0f00t9");
    return "some";
  }

  /** Everything full: eight TETS, eight to undo, eight heard, both kept, a ROW of 65 numbers, eighty signs. */
  static Object full(GluedSolids x) {
    for (int i = 1; i <= 8; i++) {
      Checks.solid(x, i + LINE.substring(1, 4 * i - 3));
    }
    x.keep(0);
    Checks.solid(x, BALLS);
    x.keep(1);
    Checks.solid(x, ONE_EDGE);
    for (int i = 0; i < 8; i++) {
      x.heard(i % 2 == 0 ? 0 : 3, 6 * i % 8);
    }
    x.shows();
    Checks.write(x, "p00t8".repeat(16));
    return "full";
  }

  static GluedSolids made(Calls calls) {
    GluedSolids x = new GluedSolids();
    calls.on(x);
    return x;
  }

  /** The call answers what is due, and changes nothing. */
  static void all(Checks c, String name, Calls made, Calls call, Object due) {
    look(c, name, made, call, due, Left::fresh, -1);
  }

  /** The call answers what is due, and changes nothing but THE TEXT, which is empty then. */
  static void allButText(Checks c, String name, Calls made, Calls call, Object due) {
    look(c, name, made, call, due, x -> x.end(0), -1);
  }

  /** The call answers what is due, and changes nothing but the ROW, which is told then. */
  static void allButRow(Checks c, String name, Calls made, Calls call, Object due, String row) {
    look(c, name, made, call, due, Left::fresh, THE_ROW);
    GluedSolids x = made(made);
    call.on(x);
    c.due(name + ": the ROW", Checks.row(x), row);
  }

  /** The call answers what is due; it empties THE TEXT, tells a ROW, and changes nothing else. */
  static void allButTextAndRow(Checks c, String name, Calls made, Calls call, Object due, String row) {
    look(c, name, made, call, due, x -> x.end(0), THE_ROW);
    GluedSolids x = made(made);
    call.on(x);
    c.due(name + ": the ROW", Checks.row(x), row);
  }

  private static void look(Checks c, String name, Calls made, Calls call, Object due, Calls asIf, int but) {
    GluedSolids x = made(made);
    GluedSolids y = made(made);
    String where = name + " of " + made.on(new GluedSolids());
    c.due(where, call.on(x), due);
    asIf.on(y);
    String[] got = held(x);
    String[] want = held(y);
    for (int i = 0; i < NAMES.length; i++) {
      if (i != but) {
        c.due(where + " leaves " + NAMES[i] + ", that", got[i], want[i]);
      }
    }
  }

  /** All that an object holds, in the order of NAMES; this uses it up. */
  static String[] held(GluedSolids x) {
    String[] all = new String[NAMES.length];
    all[THE_ROW] = x.count(4) + ": " + Checks.row(x);
    int undone = x.count(2);
    all[0] = Checks.shown(x) + " of " + x.count(0) + " TETS, " + x.count(1) + " FACES free";
    int signs = x.count(5);
    int comes = x.tries();
    all[THE_TEXT] = signs + " signs, as a trail " + comes + (comes < 0 ? "" : " " + Checks.row(x));
    all[3] = heard(x);
    List<String> kept = new ArrayList<>();
    for (int i = 0; i < 2; i++) {
      int same = x.same(i);
      kept.add(same + (same < 0 ? "" : " " + Checks.row(x)));
    }
    List<String> past = new ArrayList<>();
    for (int i = 0; i < 9; i++) {
      past.add(x.undo() + " " + Checks.shown(x));
    }
    all[5] = undone + ": " + past;
    for (int i = 0; i < 2; i++) {
      kept.add(x.again(i) + " " + Checks.shown(x));
    }
    all[4] = kept.toString();
    return all;
  }

  /** What was heard shows in the EDGES that fit it, of a few SOLIDS. */
  private static String heard(GluedSolids x) {
    return x.count(3) + ": " + x.fits() + " of THE SOLID, first " + Checks.row(x);
  }
}
