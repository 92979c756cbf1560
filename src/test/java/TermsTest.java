import java.util.Arrays;
import java.util.LinkedHashMap;
import java.util.List;
import java.util.Map;

/**
 * The sentences under "Terms" that hold for all calls: what a refusal leaves, which answer comes first, when THE TEXT
 * is emptied, when the ROW stays, and that questions change nothing.
 */
public final class TermsTest {
  private static final Checks C = new Checks();
  private static final List<Left.Calls> ANY = Arrays.asList(Left::fresh, Left::some, Left::full);

  public static void main(String[] args) {
    noneComesFirst();
    questionsChangeNothing();
    textIsEmptiedByThoseThatReadIt();
    rowStays();
    rowIsTold();
    solidsAreHeldInTheLeastNumbering();
    C.end("terms");
  }

  private static void noneComesFirst() {
    C.begin("NONE comes ahead of other answers below 0");
    Left.all(C, "no such TET, and eight there are", Left::full, x -> x.two(8, 0), -1);
    Left.all(C, "no such FACE, and eight there are", Left::full, x -> x.two(0, 4), -1);
    Left.all(C, "no such TET, and too many", Left::full, x -> x.one(8), -1);
    Left.all(C, "like CORNERS where none can be", Left::full, x -> x.three(0, 1, 1), -1);
    Left.all(C, "no such CORNER where none can be", Left::full, x -> x.four(0, 4), -1);
    for (Left.Calls made : ANY) {
      Left.all(C, "another i, nothing kept", made, x -> x.leads(2), -1);
      Left.all(C, "another i, nothing kept", made, x -> x.same(2), -1);
      Left.all(C, "another i, nothing kept", made, x -> x.way(2, 30, 8), -1);
      Left.all(C, "another n, nothing kept", made, x -> x.way(1, 31, 8), -1);
      Left.all(C, "another most, nothing kept", made, x -> x.way(1, 30, 9), -1);
      Left.all(C, "another kind, n below 0", made, x -> x.sheet(4, -1, -1, 0), -1);
      Left.all(C, "another kind below 0, n below 0", made, x -> x.sheet(-1, -1, -1, 0), -1);
      Left.all(C, "a missing one, n above 32", made, x -> x.sheet(3, 33, -1, 0), -1);
      Left.all(C, "apart, n above 32", made, x -> x.sheet(2, 33, -1, 0), -1);
      Left.all(C, "apart, another kind", made, x -> x.sheet(4, 0, -1, 0), -1);
    }
  }

  private static Map<String, Left.Calls> questions() {
    Map<String, Left.Calls> all = new LinkedHashMap<>();
    all.put("glued", x -> Checks.glued(x, 0, 1, 2));
    all.put("shows", GluedSolids::shows);
    all.put("degree", x -> x.degree(0, 2, 1));
    all.put("point", x -> x.point(0, 3));
    all.put("edges", GluedSolids::edges);
    all.put("points", GluedSolids::points);
    all.put("manifold", GluedSolids::manifold);
    all.put("sides", GluedSolids::sides);
    all.put("group", GluedSolids::group);
    all.put("euler", GluedSolids::euler);
    all.put("alike", GluedSolids::alike);
    all.put("comes", GluedSolids::comes);
    all.put("leads 0", x -> x.leads(0));
    all.put("leads 1", x -> x.leads(1));
    all.put("way 0", x -> x.way(0, 20, 8));
    all.put("way 1", x -> x.way(1, 20, 8));
    all.put("drawn", x -> x.drawn(4, 12));
    all.put("fits", GluedSolids::fits);
    all.put("same 0", x -> x.same(0));
    all.put("same 1", x -> x.same(1));
    all.put("count", x -> x.count(0));
    all.put("row", x -> Checks.rowAt(x, 0));
    return all;
  }

  /** Each question twice: the second answer and ROW are those of the first, and all else is as it was. */
  private static void questionsChangeNothing() {
    C.begin("questions change nothing");
    for (Left.Calls made : ANY) {
      String[] was = Left.held(Left.made(made));
      questions().forEach((name, ask) -> {
        GluedSolids x = Left.made(made);
        String once = ask.on(x) + ": " + Checks.row(x);
        C.due(name + ", again", ask.on(x) + ": " + Checks.row(x), once);
        String[] is = Left.held(x);
        for (int i = 0; i < is.length; i++) {
          if (i != Left.THE_ROW) {
            C.due(name + " of " + made.on(new GluedSolids()), is[i], was[i]);
          }
        }
      });
    }
  }

  private static void textIsEmptiedByThoseThatReadIt() {
    C.begin("a call that reads THE TEXT empties it");
    for (String text : new String[] {"", "1", "2", "x", "t0", "t9", Left.BALLS, "t9".repeat(40), "x".repeat(80)}) {
      for (int k = 0; k < 3; k++) {
        GluedSolids x = Left.made(Left::some);
        Checks.write(x, text);
        int answer = k == 0 ? x.solid() : k == 1 ? x.trail() : x.tries();
        C.due("call " + k + " on " + text + " answered " + answer + ", signs", x.count(5), 0);
        C.due("from its begin again", x.sign(0x74307439) + " " + x.tries(), "4 " + (x.count(0) > 5 ? x.count(0) : x.count(0) + 3));
      }
    }
    Map<String, Left.Calls> others = new LinkedHashMap<>(questions());
    others.put("sheet", x -> x.sheet(2, 32, 0, 0));
    others.put("sheet that frees", x -> x.sheet(2, 11, 0, 0));
    others.put("two", x -> x.two(0, 3) + x.two(0, 2) + x.two(0, 1) + x.two(0, 0));
    others.put("three", x -> x.three(0, 0, 1) + x.three(0, 2, 3));
    others.put("one", x -> x.one(0));
    others.put("four", x -> x.four(0, 0));
    others.put("simpler", GluedSolids::simpler);
    others.put("undo", GluedSolids::undo);
    others.put("heard", x -> x.heard(0, 0));
    others.put("forget", GluedSolids::forget);
    others.put("keep", x -> x.keep(1));
    others.put("again", x -> x.again(0));
    others.put("again, refused", x -> x.again(2));
    others.forEach((name, call) -> {
      GluedSolids x = Left.made(Left::some);
      Checks.write(x, "e999p99");
      call.on(x);
      C.due(name + " leaves it", x.count(5) + " " + (x.sign(0x74307400) == 11) + " " + x.end(10) + " " + x.end(9) + " " + x.trail(), "7 true true true 0");
    });
  }

  /** Calls that do not tell of the ROW leave it, whatever they answer. */
  private static void rowStays() {
    C.begin("the ROW stays");
    Map<String, Left.Calls> all = new LinkedHashMap<>();
    all.put("sign", x -> x.sign(0));
    all.put("end", x -> x.end(0));
    all.put("end, refused", x -> x.end(81));
    all.put("solid", x -> Checks.solid(x, Left.FIVE));
    all.put("solid, refused", x -> Checks.solid(x, "3"));
    all.put("glued", x -> Checks.glued(x, 0, 0, 0));
    all.put("glued, refused", x -> Checks.glued(x, 0, 0, 7));
    all.put("sheet", x -> x.sheet(0, 32, 0, 0));
    all.put("sheet, refused", x -> x.sheet(0, 33, 0, 0));
    all.put("sheet, apart", x -> x.sheet(0, 0, 0, 0));
    all.put("euler", GluedSolids::euler);
    all.put("alike", GluedSolids::alike);
    all.put("two", x -> x.two(0, 0) + x.two(0, 1) + x.two(0, 2) + x.two(0, 3));
    all.put("three", x -> x.three(0, 0, 1) + x.three(0, 0, 2) + x.three(0, 0, 3) + x.three(0, 1, 2) + x.three(0, 1, 3) + x.three(0, 2, 3));
    all.put("one", x -> x.one(0));
    all.put("four", x -> x.one(0) + x.four(0, 0) + x.four(0, 1) + x.four(0, 2) + x.four(0, 3));
    all.put("undo", GluedSolids::undo);
    all.put("heard", x -> x.heard(0, 0));
    all.put("forget", GluedSolids::forget);
    all.put("keep", x -> x.keep(0));
    all.put("again", x -> x.again(0));
    all.put("again, refused", x -> x.again(-1));
    all.put("count", x -> x.count(4));
    all.put("row", x -> Checks.rowAt(x, 0));
    all.put("row, refused", x -> Checks.rowAt(x, 99));
    all.put("trail, refused", x -> Checks.trail(x, "t0x"));
    all.put("tries, refused", x -> Checks.tries(x, "t"));
    all.put("degree, refused", x -> x.degree(0, 0, 0));
    all.put("point, refused", x -> x.point(9, 0));
    all.put("leads, refused", x -> x.leads(2));
    all.put("leads, none", x -> x.keep(0) + " " + x.leads(0));
    all.put("way, refused", x -> x.way(0, 0, 8));
    all.put("way, nothing kept", x -> new GluedSolids().way(0, 1, 8));
    all.put("drawn, refused", x -> x.drawn(0, 0));
    all.put("same, refused", x -> x.same(2));
    for (Left.Calls made : ANY) {
      all.forEach((name, call) -> {
        GluedSolids x = Left.made(made);
        String row = Checks.row(x);
        call.on(x);
        C.due(name + " of " + made.on(new GluedSolids()), Checks.row(x), row);
      });
    }
    for (int i = 0; i < 2; i++) {
      int under = i;
      for (Left.Calls ask : Arrays.<Left.Calls>asList(x -> x.same(under), x -> x.leads(under), x -> x.way(under, 5, 8))) {
        GluedSolids x = new GluedSolids();
        x.points();
        C.due("nothing kept under " + i, (int) ask.on(x) + " " + Checks.row(x), ask.on(x) + " 0 1");
      }
    }
    GluedSolids x = new GluedSolids();
    x.one(0);
    x.keep(0);
    Checks.solid(x, Left.FIVE);
    x.points();
    C.due("not found", x.way(0, 30, 8) + " " + Checks.row(x), "-2 1 2");
  }

  /** The ROW is told anew by calls that say so: how many numbers, also where a longer or a shorter one was told before. */
  private static void rowIsTold() {
    C.begin("the ROW is told");
    Object[][] all = {
      {"degree", 2, (Left.Calls) x -> x.degree(0, 0, 1)}, {"point", 3, (Left.Calls) x -> x.point(0, 0)},
      {"edges", 5, (Left.Calls) GluedSolids::edges}, {"points", 2, (Left.Calls) GluedSolids::points},
      {"manifold", 3, (Left.Calls) GluedSolids::manifold}, {"trail", 2, (Left.Calls) x -> Checks.trail(x, "t9")},
      {"an empty trail", 2, (Left.Calls) x -> Checks.trail(x, "")}, {"tries", 2, (Left.Calls) x -> Checks.tries(x, "t9")},
      {"an empty trail tried", 2, (Left.Calls) x -> Checks.tries(x, "")}, {"comes", 4, (Left.Calls) GluedSolids::comes},
      {"simpler", 1, (Left.Calls) GluedSolids::simpler}, {"drawn", 2, (Left.Calls) x -> x.drawn(0, 1)},
      {"way", 1, (Left.Calls) x -> x.keep(1) + " " + x.way(1, 1, 1)}, {"same", 1, (Left.Calls) x -> x.keep(1) + " " + x.same(1)},
      {"fits", 3, (Left.Calls) x -> x.forget() + x.fits()}, {"fits, none", 0, (Left.Calls) x -> x.forget() + x.heard(1, 0) + x.heard(1, 1) + x.fits()},
    };
    for (Left.Calls made : ANY) {
      for (Object[] one : all) {
        GluedSolids x = Left.made(made);
        ((Left.Calls) one[2]).on(x);
        C.due(one[0] + " of " + made.on(new GluedSolids()), x.count(4), one[1]);
      }
    }
    int[] numbers = {2, 3, 1, 2};
    String[] froms = {"2031a", null, "1", null};
    for (int kind = 0; kind < 4; kind++) {
      GluedSolids x = Checks.solidOf(kind < 2 ? "2031a" : "1");
      x.keep(0);
      if (kind < 2) {
        C.due("two", x.two(0, 3), 3);
      } else {
        x.one(0);
      }
      x.keep(1);
      if (froms[kind] != null) {
        x.undo();
      }
      C.due("leads by kind " + kind, x.leads(froms[kind] == null ? 0 : 1) + " " + x.count(4), kind + " " + numbers[kind]);
    }
  }

  /** However a SOLID is told, it is held in one way, and that is the least of all NUMBERINGS. */
  private static void solidsAreHeldInTheLeastNumbering() {
    C.begin("the least NUMBERING");
    for (String text : new String[] {Left.BALLS, Left.FIVE, Left.LINE, Left.ONE_EDGE, "1000g", "2011q", "3021a032a132h"}) {
      PlainModel m = new PlainModel();
      m.text = text;
      m.solid();
      GluedSolids x = Checks.solidOf(text);
      String held = Checks.shown(x);
      C.due("held", held, PlainModel.show(m.now));
      x.keep(0);
      for (int first = 0; first < m.now.length; first++) {
        for (int[] names : PlainModel.PERMS) {
          String other = PlainModel.show(PlainModel.fromRow(PlainModel.rowOf(m.now, first, names)));
          C.due("told as " + other, Checks.solid(x, other) + " " + x.same(0), m.now.length + " 1");
        }
      }
    }
  }
}
