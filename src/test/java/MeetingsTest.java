import java.util.ArrayList;
import java.util.List;

/**
 * Where several sentences of the document meet in one run of calls: any three calls one behind another, against the plain
 * model, and some runs written out with what is due by the sentences that meet there.
 */
public final class MeetingsTest {
  private static final Checks C = new Checks();

  /** Calls as texts: a name and its arguments; 1949332537 is "t0t9", 825241632 is "100 ". */
  private static final String[] CALLS = {
    "sign 1949332537", "sign 825241632", "end 1", "end 3", "end 90", "solid", "trail", "tries", "two 0 3", "three 0 1 2", "one 0",
    "four 0 0", "sheet 2 7 0 0", "sheet 3 0 0 0", "simpler", "undo", "keep 1", "again 0", "again 1", "same 1", "leads 0", "way 0 6 5",
    "drawn 4 5", "comes", "edges", "sides", "group", "shows", "degree 0 1 1", "heard 0 3", "heard 3 1", "heard 5 0", "fits", "forget",
    "row 2", "count 4",
  };

  /** What was done ahead of the three calls. */
  private static final String[] STARTS = {
    "keep 0; one 0; edges; sign 1949332537",
    "sign 842018865; sign 1627389952; end 5; solid; keep 0; two 0 3; heard 1 1; manifold; sign 825241632; end 1",
  };

  public static void main(String[] args) {
    for (String start : STARTS) {
      anyThree(start);
    }
    questionBehindAChange();
    refusalBehindAQuestion();
    undoBehindATrail();
    undoBehindASheet();
    undoBehindAgain();
    keptBehindAChange();
    heardBehindAChange();
    textBehindACall();
    trailBehindANumbering();
    fullRoundOfUndo();
    C.end("meetings");
  }

  /** Fewer calls are looked at with those ahead of them, which were looked at before. */
  private static void anyThree(String start) {
    C.begin("any three calls behind " + start);
    for (String a : CALLS) {
      lookAtLast(start, a);
      for (String b : CALLS) {
        lookAtLast(start + "; " + a, b);
        for (String c : CALLS) {
          lookAtLast(start + "; " + a + "; " + b, c);
        }
      }
    }
  }

  private static void lookAtLast(String ahead, String last) {
    Both both = new Both();
    both.run(ahead);
    both.compare(C, ahead, last);
  }

  private static void due(GluedSolids x, String what, Object got, Object want, String row) {
    C.due(what, got, want);
    C.due(what + ": the ROW", Checks.row(x), row);
  }

  private static void questionBehindAChange() {
    C.begin("a question behind a change");
    GluedSolids x = Checks.solidOf(Left.BALLS);
    due(x, "edges of two", x.edges(), 6, "2 6 2 6 0");
    due(x, "two tells no ROW", x.two(0, 0), 3, "2 6 2 6 0");
    due(x, "edges of three", x.edges(), 7, "1 3 4 3 0");
    due(x, "a change that is refused", x.two(3, 0), -1, "1 3 4 3 0");
    due(x, "the same again", x.edges(), 7, "1 3 4 3 0");
    due(x, "undone", x.undo(), 1, "1 3 4 3 0");
    due(x, "edges of two again", x.edges(), 6, "2 6 2 6 0");
    due(x, "what would come is not there", x.drawn(4, 12) > 0, true, Checks.row(x));
    due(x, "edges as before", x.edges(), 6, "2 6 2 6 0");
    due(x, "a sheet tells no ROW", x.sheet(2, 7, 0, 0), 2, "2 6 2 6 0");
    due(x, "manifold of what it left", x.manifold(), 0, "2 0 3");
    due(x, "undone to what was ahead of it all", x.undo() + " " + x.undo(), "0 -1", "2 0 3");
    due(x, "one TET again", x.manifold(), 0, "4 0 4");
  }

  private static void refusalBehindAQuestion() {
    C.begin("a refusal behind a question that told a ROW");
    GluedSolids x = Checks.solidOf(Left.BALLS);
    due(x, "points", x.points(), 4, "4 2");
    due(x, "degree", x.degree(0, 1, 1), -1, "4 2");
    due(x, "point", x.point(0, 4), -1, "4 2");
    due(x, "leads", x.leads(0), -2, "4 2");
    due(x, "way", x.way(0, 1, 1), -3, "4 2");
    due(x, "same", x.same(1), -2, "4 2");
    due(x, "drawn", x.drawn(1, 0), -1, "4 2");
    due(x, "trail", Checks.trail(x, "f0"), -3, "4 2");
    due(x, "tries", Checks.tries(x, "f00e01"), -7, "4 2");
    due(x, "solid", Checks.solid(x, "2001a0"), -7, "4 2");
    due(x, "sheet", x.sheet(2, 0, 0, 0), -4, "4 2");
    x.keep(0);
    due(x, "leads to itself", x.leads(0), -2, "4 2");
    due(x, "way to itself", x.way(0, 1, 1), 0, "1");
    due(x, "simpler that does nothing is none", x.simpler(), 2, "0");
    due(x, "a trail that does nothing is none", Checks.trail(x, "e001f44"), 0, "1 2");
    due(x, "nor an empty one", Checks.trail(x, ""), 0, "0 2");
    due(x, "group of no TORSIONS", x.group(), 0, "");
    due(x, "a refusal behind an empty ROW", x.two(2, 0), -1, "");
    due(x, "sides", x.sides(), 1, "2");
    due(x, "no EDGE fits", x.heard(0, 48) + " " + x.fits(), "1 0", "");
    C.due("no number of an empty ROW", Checks.rowAt(x, 0), "none");
  }

  private static void undoBehindATrail() {
    C.begin("an undo behind a trail");
    GluedSolids x = Checks.solidOf(Left.BALLS);
    x.keep(0);
    due(x, "two done, then one that can't be", Checks.trail(x, "t0f00t0f00"), 2, "1 6");
    C.due("as one", x.count(2), 2);
    due(x, "undone as one", x.undo() + " " + x.same(0), "1 1", "2");
    due(x, "none done", Checks.trail(x, "p00f00"), 0, "1 2");
    C.due("which is not to be undone", x.count(2), 1);
    C.due("tries neither", Checks.tries(x, "f00") + " " + x.count(2) + " " + x.same(0), "3 1 1");
    C.due("a text that is none neither", Checks.trail(x, "f00f0x") + " " + x.count(2) + " " + x.same(0), "-6 1 1");
    Checks.trail(x, "t0");
    due(x, "one undone that came behind it", x.two(0, firstGlued(x)) + " " + x.undo() + " " + x.count(0), "6 2 5", "0 5");
    due(x, "then it", x.undo() + " " + x.same(0), "1 1", "2");
    due(x, "what comes of there and back", Checks.tries(x, "t0" + fourAt(x, "t0")), 2, "2 1");
    due(x, "is done, though it comes to the same", Checks.trail(x, "t0" + fourAt(x, "t0")) + " " + x.count(2) + " " + x.same(0), "2 2 1", "2");
    C.due("and undone, to the same", x.undo() + " " + x.same(0) + " " + x.undo() + " " + x.count(0), "1 1 0 1");
  }

  /** The 4-1 that leads back from where a trail comes to, as a trail. */
  private static String fourAt(GluedSolids x, String trail) {
    GluedSolids y = Checks.solidOf(Checks.shown(x));
    y.keep(0);
    Checks.trail(y, trail);
    C.due("a 4-1 leads back", y.leads(0), 3);
    return "p" + y.row(0) + y.row(1);
  }

  private static int firstGlued(GluedSolids x) {
    for (int f = 0; f < 4; f++) {
      if (x.glued(0, f, 0) > 0) {
        return f;
      }
    }
    return -1;
  }

  private static void undoBehindASheet() {
    C.begin("an undo behind a sheet");
    GluedSolids x = Checks.solidOf(Left.BALLS);
    x.keep(0);
    C.due("a sheet that frees a pair", x.sheet(2, 7, 0, 0) + " " + x.count(2) + " " + x.same(0), "2 1 0");
    x.keep(1);
    C.due("a change behind it", x.one(0) + " " + x.count(1) + " " + x.count(2), "5 2 2");
    C.due("undone to what the sheet left", x.undo() + " " + x.same(1) + " " + x.count(1), "1 1 2");
    C.due("undone to what was ahead of the solid", x.undo() + " " + x.count(0) + " " + x.count(1), "0 1 4");
    C.due("what was kept of it stays", x.again(1) + " " + x.count(1) + " " + x.count(2), "true 2 0");
    Checks.solid(x, Left.BALLS);
    x.two(0, 0);
    C.due("a sheet behind a change", x.sheet(0, 11, 0, 0) > 0 && x.count(2) == 2, true);
    C.due("undone to what was ahead of the change, nothing free", x.undo() + " " + x.same(0) + " " + x.count(1), "1 1 0");
    C.due("a sheet of all that would part it", x.sheet(1, 0, 0, 0) + " " + x.same(0) + " " + x.count(2), "-4 1 1");
  }

  private static void undoBehindAgain() {
    C.begin("an undo behind again");
    GluedSolids x = Checks.solidOf(Left.BALLS);
    C.due("refused, nothing is forgotten", x.again(0) + " " + x.again(2) + " " + x.count(2), "false false 1");
    x.keep(0);
    x.one(0);
    C.due("forgotten", x.again(0) + " " + x.count(2) + " " + x.undo() + " " + x.same(0), "true 0 -1 1");
    C.due("what comes behind can be undone", x.two(0, 0) + " " + x.count(2) + " " + x.undo() + " " + x.same(0), "3 1 0 1");
    C.due("also to what it is", x.one(0) + " " + x.keep(0) + " " + x.again(0) + " " + x.count(2) + " " + x.undo(), "5 true true 0 -1");
  }

  private static void keptBehindAChange() {
    C.begin("what is kept behind a change");
    GluedSolids x = Checks.solidOf(Left.BALLS);
    x.keep(0);
    x.keep(1);
    x.two(0, 0);
    C.due("stays as it was", x.same(0) + " " + Checks.row(x), "0 2");
    C.due("a MOVE leads there", x.leads(0) + " " + Checks.row(x), "1 0 0 1");
    C.due("the MOVE told leads there", x.three(0, 0, 1) + " " + x.same(0), "2 1");
    x.undo();
    x.keep(1);
    C.due("kept anew under the other", x.same(1) + " " + x.same(0), "1 0");
    x.undo();
    C.due("what was kept stays behind an undo", x.same(1) + " " + Checks.row(x) + " " + x.leads(1) + " " + x.way(1, 2, 3), "0 3 0 1");
    x.sheet(2, 7, 0, 0);
    C.due("and behind a sheet", x.same(0) + " " + x.same(1) + " " + x.way(0, 30, 8), "0 0 -2");
    C.due("and behind again", x.again(1) + " " + x.same(1) + " " + x.leads(0) + " " + x.again(0) + " " + x.same(0), "true 1 1 true 1");
    Checks.solid(x, Left.FIVE);
    C.due("and behind a solid", x.same(0) + " " + x.same(1) + " " + Checks.row(x), "0 0 3");
    C.due("a number refused keeps nothing", x.keep(2) + " " + x.same(0) + " " + x.same(1) + " " + x.same(2), "false 0 0 -1");
  }

  private static void heardBehindAChange() {
    C.begin("what was heard behind a change");
    GluedSolids x = new GluedSolids();
    x.heard(1, 0);
    C.due("no EDGE of one TET", x.fits() + " " + x.count(4), "0 0");
    x.one(0);
    C.due("four around the new CORNER", x.fits() + " " + x.count(3), "4 1");
    x.heard(3, 3);
    C.due("of the last TET", x.fits(), 3);
    x.undo();
    C.due("what was heard stays", x.count(3) + " " + x.fits(), "2 0");
    x.keep(0);
    x.again(0);
    x.sheet(2, 4, 0, 0);
    C.due("behind again and a sheet too", x.count(3) + " " + x.forget() + " " + x.fits() + " " + Checks.row(x), "2 2 6 0 0 1");
    for (int i = 0; i < 8; i++) {
      x.heard(4, 0);
    }
    C.due("eight", x.heard(4, 0) + " " + x.heard(9, 9) + " " + x.count(3) + " " + x.fits(), "-1 -1 8 6");
    Checks.solid(x, Left.FIVE);
    C.due("eight, of one POINT", x.fits() + " " + x.count(4) + " " + x.forget() + " " + x.heard(4, 1) + " " + x.fits(), "0 0 8 1 2");
  }

  private static void textBehindACall() {
    C.begin("THE TEXT behind a call");
    GluedSolids x = new GluedSolids();
    x.sign(0x74303130);
    x.one(0);
    x.undo();
    x.keep(0);
    x.again(0);
    C.due("stays till it is read", x.count(5) + " " + x.end(2) + " " + x.trail() + " " + x.count(5) + " " + x.count(0), "4 true 1 0 4");
    C.due("then it is empty", x.trail() + " " + x.tries() + " " + x.solid() + " " + x.count(0), "0 4 -1 4");
    x.sign(0x31303030);
    C.due("a refusal empties it", x.solid() + " " + x.count(5) + " " + x.sign(0x31000000) + " " + x.end(1) + " " + x.solid(), "-5 0 4 true 1");
    for (int i = 0; i < 20; i++) {
      x.sign(0x74397439);
    }
    C.due("a full one takes none", x.sign(0) + " " + x.count(5) + " " + x.trail() + " " + x.count(5), "-1 80 0 0");
  }

  /** Each MOVE of a trail is at a place of THE SOLID as the one ahead of it left it. */
  private static void trailBehindANumbering() {
    C.begin("a trail behind numberings");
    for (String start : new String[] {Left.BALLS, Left.FIVE, "2001a", "3021a032a132h"}) {
      for (int seed = 0; seed < 40; seed++) {
        GluedSolids one = Checks.solidOf(start);
        GluedSolids other = Checks.solidOf(start);
        StringBuilder b = new StringBuilder();
        int state = seed;
        int done = 0;
        boolean isStopped = false;
        for (int i = 0; i < 12; i++) {
          state = state * 1103515245 + 12345;
          int tet = (state >>> 16) % 8;
          int u = (state >>> 19) % 4;
          int kind = (state >>> 21) % 4;
          int v = (u + 1 + (state >>> 23) % 3) % 4;
          b.append("fetp".charAt(kind)).append(tet).append(kind == 2 ? "" : u).append(kind == 1 ? v : "");
          int answer = isStopped ? -1 : kind == 0 ? one.two(tet, u) : kind == 1 ? one.three(tet, u, v) : kind == 2 ? one.one(tet) : one.four(tet, u);
          isStopped = answer < 0;
          done += isStopped ? 0 : 1;
        }
        String text = b.toString();
        String row = (isStopped ? 1 : 0) + " " + one.count(0);
        C.due("tries " + text, Checks.tries(other, text) + " " + other.row(0), one.count(0) + " " + done);
        C.due("trail " + text, Checks.trail(other, text) + " " + Checks.row(other), done + " " + row);
        C.due("what it came to " + text, Checks.shown(other), Checks.shown(one));
      }
    }
  }

  /** More than eight changes of all kinds, sheets and refusals between them: each undo comes to what was ahead of its change. */
  private static void fullRoundOfUndo() {
    C.begin("a full round of undo");
    GluedSolids x = Checks.solidOf(Left.BALLS);
    List<String> were = new ArrayList<>();
    String[] calls = {"one", "two", "sheet", "trail", "refused", "simpler", "sheet", "one", "solid", "two", "tries", "trail", "one", "solid", "two"};
    for (String call : calls) {
      String was = Checks.shown(x);
      int could = x.count(2);
      boolean isDone = doOne(x, call);
      if (isDone) {
        were.add(was);
      }
      C.due(call + " can be undone", x.count(2), isDone ? Math.min(could + 1, 8) : could);
    }
    C.due("more than eight were done", were.size() > 8, true);
    for (int i = 7; i >= 0; i--) {
      C.due("undo", x.undo() + " " + Checks.shown(x), i + " " + were.remove(were.size() - 1));
    }
    C.due("no more", x.undo(), -1);
  }

  /** Whether it can be undone then. */
  private static boolean doOne(GluedSolids x, String call) {
    switch (call) {
      case "one":
        return x.one(0) > 0;
      case "two":
        return x.two(0, firstGlued(x)) > 0;
      case "trail":
        return Checks.trail(x, "f0" + firstGlued(x) + "t9") > 0;
      case "simpler":
        x.simpler();
        return x.row(0) > 0;
      case "solid":
        return Checks.solid(x, Left.BALLS) > 0;
      case "sheet":
        x.sheet(2, 4 * x.count(0) - 1, 0, 0);
        return false;
      case "tries":
        Checks.tries(x, "t0");
        return false;
      default:
        C.due("refused", x.two(8, 0) + " " + x.one(8) + " " + Checks.solid(x, "0") + " " + Checks.trail(x, "t9"), "-1 -1 -1 0");
        return false;
    }
  }
}
