import java.util.ArrayList;
import java.util.Arrays;
import java.util.LinkedHashMap;
import java.util.List;
import java.util.Map;

/** Promises 17 to 28: each sentence that names a bound, an empty or a full thing, a wrap-around or a refusal, at it and next to it. */
public final class MoveBoundsTest {
  private static final Checks C = new Checks();
  private static final int LEAST = Integer.MIN_VALUE;
  private static final int MOST = Integer.MAX_VALUE;
  private static final int[] NO_TETS = {LEAST, -8, -1, 8, 16, 64, 1 << 27, 1 << 28, 1 << 30, MOST};
  private static final int[] NO_CORNERS = {LEAST, -4, -1, 4, 5, 8, 1 << 30, MOST};
  private static final List<Left.Calls> ANY = Arrays.asList(Left::fresh, Left::some, Left::full);

  public static void main(String[] args) {
    noSuchPlace();
    two();
    three();
    one();
    four();
    movesLeave();
    trailBySign();
    trailTooEarly();
    trailDone();
    tries();
    comes();
    leads();
    everyPlace();
    simpler();
    wayRefused();
    wayFindsTillN();
    wayOfAtMostTets();
    drawnRefused();
    drawnBySeed();
    neverMoreThanEight();
    undoOfEight();
    undoOfEachKind();
    C.end("bounds of moves");
  }

  /** A line of TETS, no two GLUED but the neighbours, all else free. */
  private static String line(int tets) {
    return tets + Left.LINE.substring(1, 4 * tets - 3);
  }

  private static Left.Calls of(String text) {
    return x -> {
      Checks.solid(x, text);
      x.points();
      return text;
    };
  }

  private static void noSuchPlace() {
    C.begin("17 to 20, none such");
    for (Left.Calls made : ANY) {
      int tets = Left.made(made).count(0);
      List<Integer> none = new ArrayList<>(List.of(tets));
      for (int tet : NO_TETS) {
        none.add(tet);
      }
      for (int tet : none) {
        Left.all(C, "two at TET " + tet, made, x -> x.two(tet, 0), -1);
        Left.all(C, "three at TET " + tet, made, x -> x.three(tet, 0, 1), -1);
        Left.all(C, "one at TET " + tet, made, x -> x.one(tet), -1);
        Left.all(C, "four at TET " + tet, made, x -> x.four(tet, 0), -1);
      }
      for (int v : NO_CORNERS) {
        Left.all(C, "two at FACE " + v, made, x -> x.two(tets - 1, v), -1);
        Left.all(C, "three at CORNER " + v, made, x -> x.three(0, v, 1), -1);
        Left.all(C, "three at second CORNER " + v, made, x -> x.three(tets - 1, 1, v), -1);
        Left.all(C, "four at CORNER " + v, made, x -> x.four(tets - 1, v), -1);
      }
      for (int v = 0; v < 4; v++) {
        int like = v;
        Left.all(C, "three at like CORNERS " + v, made, x -> x.three(0, like, like), -1);
        Left.all(C, "three at like CORNERS " + v + " of the last TET", made, x -> x.three(tets - 1, like, like), -1);
      }
    }
  }

  private static void two() {
    C.begin("17 two");
    for (int f = 0; f < 4; f++) {
      int face = f;
      Left.all(C, "free " + f, Left::fresh, x -> x.two(0, face), -2);
      Left.all(C, "GLUED to the same TET " + f, of(Left.FIVE), x -> x.two(0, face), -2);
    }
    for (int tets = 2; tets <= 8; tets++) {
      int now = tets;
      GluedSolids seen = Checks.solidOf(line(tets));
      int can = 0;
      for (int t = 0; t < tets; t++) {
        for (int f = 0; f < 4; f++) {
          int tet = t;
          int face = f;
          boolean isFree = seen.glued(t, f, 0) < 0;
          String name = "two(" + t + ", " + f + ")";
          if (isFree) {
            Left.all(C, name + ", free", of(line(tets)), x -> x.two(tet, face), -2);
          } else if (tets == 8) {
            Left.all(C, name + ", there would be 9", of(line(tets)), x -> x.two(tet, face), -3);
          } else {
            GluedSolids x = Left.made(of(line(tets)));
            C.due(name, x.two(tet, face) + " " + x.count(0) + " " + x.count(1) + " " + x.count(2), (now + 1) + " " + (now + 1) + " " + (2 * now + 2) + " 2");
            can++;
          }
        }
      }
      C.due("two each", can, tets == 8 ? 0 : 2 * (tets - 1));
    }
    // Eight TETS, of which TET 0 is GLUED to itself: that is asked ahead of there being 9.
    GluedSolids x = Checks.solidOf(Left.ONE_EDGE);
    int same = 0;
    for (int f = 0; f < 4; f++) {
      boolean isSame = x.glued(0, f, 0) == 0;
      same += isSame ? 1 : 0;
      int face = f;
      Left.all(C, "eight TETS, FACE " + f, Left::full, y -> y.two(0, face), isSame ? -2 : -3);
    }
    C.due("both were met", same, 2);
  }

  private static void three() {
    C.begin("18 three");
    Object[][] cant = {
      {"DEGREE 1, FREE", "1", 0, 0, 1}, {"DEGREE 1", "1020b", 0, 0, 1},
      {"DEGREE 2, of two TETS", "2011a021a031i", 0, 0, 3}, {"DEGREE 2, of one", "1000j020j", 0, 0, 2},
      {"DEGREE 3, FREE, of three TETS", "5031a112a123a233n304a", 0, 0, 1}, {"DEGREE 3, FREE, of two", "2021a031j", 0, 0, 1},
      {"DEGREE 3, REVERSED, of three TETS", "5001a011i022a033a113g134a204b214i233h314b", 0, 0, 1},
      {"DEGREE 3, REVERSED, of three TETS", "3021a032a132h", 0, 0, 1},
      {"DEGREE 3, REVERSED, of two TETS", "2000j021a031j111k", 0, 0, 2}, {"DEGREE 3, REVERSED, of one", "1000h020j", 0, 0, 1},
      {"DEGREE 3, of one TET", "1000j020n", 0, 0, 1}, {"DEGREE 3, of two TETS", "2000h021a031j111e", 0, 0, 2},
      {"DEGREE 4, of four TETS", "4001a011i022a033a113c132d203b233q", 0, 0, 2}, {"DEGREE 4, of three TETS", "4000g021a032a101x112x203a213p323n", 0, 0, 1},
      {"DEGREE 4, FREE", "5031a112a123a234a304f313l", 0, 0, 2}, {"DEGREE 48", Left.ONE_EDGE, 7, 2, 3},
    };
    for (Object[] a : cant) {
      GluedSolids x = Checks.solidOf((String) a[1]);
      C.due("as it shows it", Checks.shown(x), a[1]);
      int tet = (int) a[2];
      int u = (int) a[3];
      int v = (int) a[4];
      if (((String) a[0]).startsWith("DEGREE ")) {
        int degree = x.degree(tet, u, v);
        String told = "DEGREE " + degree + (x.row(0) == 1 ? ", FREE" : "") + (x.row(1) == 1 ? ", REVERSED" : "");
        C.due(a[0] + " starts as told", ((String) a[0]).startsWith(told), true);
      }
      Left.all(C, (String) a[0], of((String) a[1]), y -> y.three(tet, u, v), -2);
      Left.all(C, a[0] + ", changed about", of((String) a[1]), y -> y.three(tet, v, u), -2);
    }
    String can = "5001a011c021h032a113a204a213n224l324e334a";
    for (boolean isTurned : new boolean[] {false, true}) {
      GluedSolids x = Left.made(of(can));
      C.due("DEGREE 3, of three TETS", (isTurned ? x.three(2, 3, 2) : x.three(2, 2, 3)) + " " + x.count(0) + " " + x.count(2) + " " + Checks.row(x), "4 4 2 " + Checks.row(Left.made(of(can))));
    }
    GluedSolids full = Checks.solidOf(line(7));
    full.two(6, firstGlued(full, 6));
    int[] at = edgeOfThree(full);
    C.due("from eight", full.count(0) + " " + full.three(at[0], at[1], at[2]) + " " + full.count(2), "8 7 3");
  }

  private static int firstGlued(GluedSolids x, int tet) {
    for (int f = 0; f < 4; f++) {
      if (x.glued(tet, f, 0) >= 0 && x.glued(tet, f, 0) != tet) {
        return f;
      }
    }
    return 0;
  }

  private static int[] edgeOfThree(GluedSolids x) {
    for (int i = 0; i < 16 * x.count(0); i++) {
      if (x.degree(i / 16, i / 4 % 4, i % 4) == 3 && x.row(0) == 0 && x.row(1) == 0) {
        return new int[] {i / 16, i / 4 % 4, i % 4};
      }
    }
    return new int[3];
  }

  private static void one() {
    C.begin("19 one");
    for (int tets = 1; tets <= 8; tets++) {
      for (int t = 0; t < tets; t++) {
        int tet = t;
        if (tets > 5) {
          Left.all(C, "there would be " + (tets + 3), of(line(tets)), x -> x.one(tet), -3);
        } else {
          GluedSolids x = Left.made(of(line(tets)));
          C.due("one(" + t + ")", x.one(t) + " " + x.count(0) + " " + x.count(1) + " " + x.count(2), (tets + 3) + " " + (tets + 3) + " " + (2 * tets + 2) + " 2");
        }
      }
      int none = tets;
      Left.all(C, "none such, ahead of there being too many", of(line(tets)), x -> x.one(none), -1);
    }
    Left.all(C, "full", Left::full, x -> x.one(7), -3);
  }

  private static void four() {
    C.begin("20 four");
    Object[][] cant = {
      {"SIZE 1", "1", 0, 0, "1 3 1 0"}, {"SIZE 2, ROUND", Left.BALLS, 0, 0, "2 3 2 1"}, {"SIZE 3, of three TETS", "3031a122a", 0, 0, "3 5 1 0"},
      {"SIZE 4, ROUND, of one TET", "1000j020j", 0, 0, "4 4 2 1"}, {"SIZE 4, ROUND, of two TETS", "2000g021a031g101h", 0, 2, "4 4 2 1"},
      {"SIZE 4, ROUND, of three TETS", "3000g021a031c102a112l212c", 0, 3, "4 4 2 1"},
      {"SIZE 4, ROUND, of four TETS, not each to each", "4000g021a032a102g112g133a223c303o", 0, 3, "4 4 2 1"},
      {"SIZE 4, not ROUND, free FACES", "5031a112a123a233n304a", 0, 1, "4 6 1 0"},
      {"SIZE 4, not ROUND, CHI 0, free FACES", "4031a122a213a233b", 0, 0, "4 4 0 0"},
      {"SIZE 5, of five TETS", "5031a112a123a223p304a", 0, 1, "5 7 1 0"}, {"SIZE 32", Left.ONE_EDGE, 7, 3, "32 2 -14 0"},
    };
    for (Object[] a : cant) {
      GluedSolids x = Checks.solidOf((String) a[1]);
      int tet = (int) a[2];
      int v = (int) a[3];
      C.due(a[0] + ": as it shows it", Checks.shown(x), a[1]);
      C.due(a[0] + ": the POINT", x.point(tet, v) + " " + Checks.row(x), a[4]);
      Left.all(C, (String) a[0], of((String) a[1]), y -> y.four(tet, v), -2);
    }
    for (int tets = 1; tets <= 5; tets++) {
      int can = 0;
      GluedSolids seen = Checks.solidOf(line(tets));
      seen.one(tets - 1);
      seen.keep(0);
      for (int t = 0; t < seen.count(0); t++) {
        for (int v = 0; v < 4; v++) {
          boolean isNew = seen.point(t, v) == 4 && seen.row(2) == 1;
          String before = Checks.row(seen);
          int answer = seen.four(t, v);
          C.due("four(" + t + ", " + v + ")", answer, isNew ? tets : -2);
          C.due("the ROW stays", Checks.row(seen), before);
          can += answer > 0 ? 1 : 0;
          if (answer > 0) {
            C.due("back", Checks.shown(seen), Checks.shown(Checks.solidOf(line(tets))));
            C.due("undone", seen.undo() + " " + seen.same(0), "2 1");
          }
        }
      }
      C.due("at the four CORNERS of the new POINT", can, 4);
    }
  }

  private static void movesLeave() {
    C.begin("17 to 20, what they leave");
    Map<String, Left.Calls> moves = new LinkedHashMap<>();
    moves.put("two", x -> x.two(1, firstGlued(x, 1)));
    moves.put("one", x -> x.one(2));
    moves.put("three", x -> {
      int[] at = edgeOfThree(x);
      x.edges();
      return x.three(at[0], at[1], at[2]);
    });
    moves.forEach((name, move) -> {
      GluedSolids x = Left.made(Left::some);
      String row = Checks.row(x);
      String solid = Checks.shown(x);
      x.edges();
      C.due(name + " is done", (int) move.on(x) == x.count(0) && x.count(0) != 3, true);
      C.due(name + " leaves", Checks.row(x) + ", " + x.count(2) + " " + x.count(3) + " " + x.count(5), row + ", 4 2 7");
      C.due(name + " leaves what is kept", x.same(0) + " " + Checks.row(x) + " " + x.same(1), "0 1 -2");
      C.due(name + " is undone", x.undo() + " " + Checks.shown(x), "3 " + solid);
      C.due(name + " leaves THE TEXT", x.tries() > 3, true);
    });
  }

  /** Every sign at every place of a trail of each kind. */
  private static void trailBySign() {
    C.begin("21 trail, by sign");
    String[] steps = {"f00", "e001", "t0", "p00"};
    for (char c = 0; c < 256; c++) {
      String sign = "" + c;
      boolean isKind = "fetp".contains(sign);
      boolean isDigit = c >= '0' && c <= '9';
      C.due("sign " + (int) c + " first", Checks.trail(new GluedSolids(), sign), isKind ? -2 : -1);
      C.due("sign " + (int) c + " behind a step", Checks.tries(new GluedSolids(), "t0" + sign), isKind ? -4 : -3);
      for (String step : steps) {
        for (int p = 1; p < step.length(); p++) {
          String text = step.substring(0, p) + sign + step.substring(p + 1);
          int answer = Checks.tries(new GluedSolids(), text);
          C.due(text + ", sign " + (int) c, answer, !isDigit ? -1 - p : text.equals("t0") ? 4 : 1);
        }
      }
    }
  }

  private static void trailTooEarly() {
    C.begin("21 trail, too early");
    String text = "f00e001t0p00t9".repeat(6).substring(0, 80);
    List<Integer> whole = new ArrayList<>(List.of(0));
    int[] lengths = {3, 4, 2, 3, 2};
    for (int i = 0, at = 0; i < 40 && at < 80; i++) {
      at += lengths[i % 5];
      whole.add(at);
    }
    for (int n = 0; n <= 80; n++) {
      String part = text.substring(0, n);
      boolean isWhole = whole.contains(n);
      GluedSolids x = new GluedSolids();
      C.due("tries of " + n + " signs", Checks.tries(x, part) + " " + x.count(5), (isWhole ? 1 : -1 - n) + " 0");
      C.due("trail of " + n + " signs", Checks.trail(x, part) + " " + x.count(5), (isWhole ? 0 : -1 - n) + " 0");
      Left.Calls made = y -> {
        Left.some(y);
        Checks.write(y, part);
        return part;
      };
      if (!isWhole) {
        Left.allButText(C, "trail", made, GluedSolids::trail, -1 - n);
        Left.allButText(C, "tries", made, GluedSolids::tries, -1 - n);
      }
    }
    Left.allButText(C, "a fault behind steps that can be", x -> {
      Left.some(x);
      Checks.write(x, "t0t0x");
      return "t0t0x";
    }, GluedSolids::trail, -5);
  }

  private static Left.Calls writeBehind(Left.Calls made, String text) {
    return x -> {
      made.on(x);
      Checks.write(x, text);
      return text;
    };
  }

  private static void trailDone() {
    C.begin("21 trail");
    for (Left.Calls made : ANY) {
      int tets = Left.made(made).count(0);
      Left.allButTextAndRow(C, "an empty one", writeBehind(made, ""), GluedSolids::trail, 0, "0 " + tets);
      for (String step : new String[] {"t9", "t8", "t" + tets, "f04", "f09", "e000", "e040", "e004", "p04", "p99", "f99", "e999"}) {
        Left.allButTextAndRow(C, "none done", writeBehind(made, step), GluedSolids::trail, 0, "1 " + tets);
        Left.allButTextAndRow(C, "none done, though the next could be", writeBehind(made, step + "t0f01"), GluedSolids::trail, 0, "1 " + tets);
      }
    }
    Left.allButTextAndRow(C, "eighty signs, forty steps", writeBehind(Left::full, "t0".repeat(40)), GluedSolids::trail, 0, "1 8");
    GluedSolids x = new GluedSolids();
    C.due("till there are too many", Checks.trail(x, "t0".repeat(40)) + " " + Checks.row(x) + " " + x.count(0) + " " + x.count(2), "2 1 7 7 1");
    C.due("undone as one", x.undo() + " " + x.count(0), "0 1");
    C.due("all done", Checks.trail(x, "t0t3") + " " + Checks.row(x), "2 0 7");
    x.undo();
    C.due("no TET 4", Checks.trail(x, "t0t4") + " " + Checks.row(x), "1 1 4");
    // Forty steps that can all be: there and back again and again.
    GluedSolids y = new GluedSolids();
    int[] at = {0, 0};
    y.one(0);
    for (int i = 0; i < 16; i++) {
      if (y.point(i / 4, i % 4) == 4) {
        at = new int[] {i / 4, i % 4};
        break;
      }
    }
    y.undo();
    String there = "t0p" + at[0] + at[1];
    C.due("eighty signs, all done", Checks.trail(y, there.repeat(16)) + " " + Checks.row(y) + " " + y.count(2), "32 0 1 1");
    C.due("done, though it is as it was", y.undo() + " " + y.undo(), "0 -1");
    C.due("nothing is left of it", y.count(5), 0);
    GluedSolids z = Left.made(Left::full);
    C.due("eight to undo stay eight", Checks.trail(z, "e001") + " " + z.count(2), "0 8");
    Checks.solid(z, "1");
    C.due("nine, the oldest is lost", Checks.trail(z, "t0") + " " + z.count(2) + " " + z.count(3) + " " + z.same(0) + " " + z.same(1), "1 8 8 0 0");
  }

  private static void tries() {
    C.begin("22 tries");
    for (Left.Calls made : ANY) {
      int tets = Left.made(made).count(0);
      Left.allButTextAndRow(C, "an empty one", writeBehind(made, ""), GluedSolids::tries, tets, "0 1");
      Left.allButTextAndRow(C, "none would be done", writeBehind(made, "t9t0"), GluedSolids::tries, tets, "0 1");
      String row = tets > 5 ? "0 1" : "1 0";
      Left.allButTextAndRow(C, "one would be", writeBehind(made, "t0"), GluedSolids::tries, tets > 5 ? tets : tets + 3, row);
    }
    Left.allButTextAndRow(C, "eighty signs", writeBehind(Left::fresh, "t0".repeat(40)), GluedSolids::tries, 7, "2 0");
    Left.allButTextAndRow(C, "back again", writeBehind(Left::fresh, "t0" + backFour()), GluedSolids::tries, 1, "2 1");
    Left.allButTextAndRow(C, "back again, and one that can't be", writeBehind(Left::fresh, "t0" + backFour() + "t1t0"), GluedSolids::tries, 1, "2 1");
    Left.allButTextAndRow(C, "back again, and away", writeBehind(Left::fresh, "t0" + backFour() + "t0"), GluedSolids::tries, 4, "3 0");
  }

  /** The first 4-1 behind 1-4 of one TET. */
  private static String backFour() {
    GluedSolids x = new GluedSolids();
    x.keep(0);
    x.one(0);
    x.leads(0);
    return "p" + x.row(0) + x.row(1);
  }

  private static void comes() {
    C.begin("23 comes");
    Left.allButRow(C, "comes", Left::fresh, GluedSolids::comes, 1, "0 0 1 0");
    Left.allButRow(C, "eight TETS, none", of(Left.LINE), GluedSolids::comes, 0, "0 0 0 0");
    Left.allButRow(C, "full", Left::full, GluedSolids::comes, 0, "0 0 0 0");
    GluedSolids other = Checks.solidOf("3001a112a");
    String told = "";
    for (String text : new String[] {"1", Left.BALLS, Left.LINE, "1", Left.FIVE}) {
      other.comes();
      other.keep(0);
      other.way(0, 30, 8);
      Checks.solid(other, text);
      told += other.comes() + ": " + Checks.row(other) + ", ";
    }
    C.due("nothing of an earlier one is left", told, "1: 0 0 1 0, 2: 8 0 2 0, 0: 0 0 0 0, 1: 0 0 1 0, 1: 0 0 1 0, ");
    for (int tets = 2; tets <= 8; tets++) {
      GluedSolids x = Checks.solidOf(line(tets));
      x.comes();
      C.due("a line of " + tets, Checks.row(x), (tets < 8 ? 2 * (tets - 1) : 0) + " 0 " + (tets < 6 ? tets : 0) + " 0");
    }
    for (int tets = 1; tets <= 5; tets++) {
      GluedSolids x = Checks.solidOf(line(tets));
      x.one(0);
      x.comes();
      C.due("places of 4-1, of 3-2", x.row(3) + " " + x.row(1) + " " + x.row(2), "4 12 " + (tets + 3 < 6 ? tets + 3 : 0));
    }
  }

  private static void leads() {
    C.begin("24 leads");
    for (Left.Calls made : ANY) {
      for (int i : new int[] {LEAST, -1, 2, 3, 256, MOST}) {
        Left.all(C, "leads(" + i + ")", made, x -> x.leads(i), -1);
      }
    }
    Left.all(C, "nothing is kept", Left::fresh, x -> x.leads(0), -2);
    Left.all(C, "nothing is kept", Left::fresh, x -> x.leads(1), -2);
    Left.all(C, "nothing is kept under 1", Left::some, x -> x.leads(1), -2);
    Left.all(C, "none", Left::some, x -> x.leads(0), -2);
    Left.all(C, "none, full", Left::full, x -> x.leads(0), -2);
    Left.all(C, "none, full", Left::full, x -> x.leads(1), -2);
    for (int i = 0; i < 2; i++) {
      int under = i;
      Left.all(C, "not to itself", x -> x.keep(under), x -> x.leads(under), -2);
      Left.allButRow(C, "1-4", x -> x.one(0) + (x.keep(under) ? x.undo() : 0), x -> x.leads(under), 2, "0");
      Left.all(C, "two moves away", x -> x.one(0) + x.one(0) + (x.keep(under) ? x.undo() + x.undo() : 0), x -> x.leads(under), -2);
    }
    // From seven TETS one 2-3 leads to eight; from eight none does, and 1-4 leads from five, not from six.
    for (int tets = 2; tets <= 8; tets++) {
      GluedSolids x = Checks.solidOf(line(tets));
      x.keep(1);
      int two = x.two(0, firstGlued(x, 0));
      x.keep(0);
      if (two > 0) {
        x.undo();
      }
      int first = x.leads(0);
      C.due("2-3 from " + tets, first, tets == 8 ? -2 : 0);
      x.again(0);
      C.due("and back", x.leads(1), tets == 8 ? -2 : 1);
    }
  }

  /**
   * Each place, in the document's order, by the call, by a trail of one step and tried; then leads() to what it came to, which
   * tells the first place that comes to that, and comes(), which tells how many can be and how many different ones there are.
   */
  private static void everyPlace() {
    C.begin("21 to 24, every place");
    String[] texts = {
      "1", Left.BALLS, "2001a", "3001a112a", "3021a032a132h", "5001a011c021h032a113a204a213n224l324e334a", "5021a031c102a113a213j234a304n334q",
      "6021a032a133a214a225a305s314t425i", "6031a122a203a214a314e324q335a", "7031a122a233a314a405a516a", line(5), Left.LINE,
      "4011a022a033a122h133j203p213a", "5011a022a033a102k123t204a233f304m414f", "5001a011b022a032i122q133a214a304v314x324w",
      "5000h021a032a101w113a204a213q223w324a414k", "4001a011c022a033a113s132r213u233e", "5011a021i032a122l133a214a303o314e404q",
    };
    boolean[][] met = new boolean[4][16];
    boolean[][] tets = new boolean[4][8];
    for (String text : texts) {
      everyPlaceOf(Checks.solidOf(text), met, tets);
      for (int tet = 0; tet < text.charAt(0) - '0'; tet++) {
        GluedSolids x = Checks.solidOf(text);
        GluedSolids y = Checks.solidOf(text);
        if (x.two(tet, firstGlued(x, tet)) > 0) {
          everyPlaceOf(x, met, tets);
        }
        if (y.one(tet) > 0) {
          everyPlaceOf(y, met, tets);
        }
      }
    }
    C.due("first places of 2-3 at FACES", met[0][0] && met[0][1] && met[0][2] && met[0][3], true);
    C.due("of 3-2 at CORNERS", met[1][1] && met[1][2] && met[1][3] && met[1][6] && met[1][7] && met[1][11], true);
    C.due("of 4-1 at CORNERS", met[3][0] && met[3][1] && met[3][2] && met[3][3], true);
    for (int kind = 0; kind < 4; kind++) {
      C.due("of kind " + kind + " at TETS 0 to 3", tets[kind][0] && tets[kind][1] && tets[kind][2] && tets[kind][3], true);
    }
  }

  private static int move(GluedSolids x, int[] p) {
    return p[0] == 0 ? x.two(p[1], p[2]) : p[0] == 1 ? x.three(p[1], p[2], p[3]) : p[0] == 2 ? x.one(p[1]) : x.four(p[1], p[2]);
  }

  private static void everyPlaceOf(GluedSolids x, boolean[][] met, boolean[][] tets) {
    String text = Checks.shown(x);
    x.keep(0);
    Map<String, String> first = new LinkedHashMap<>();
    int[] can = new int[4];
    for (int[] p : PlainModel.places(new int[x.count(0)][4][])) {
      String step = "fetp".substring(p[0], p[0] + 1);
      String place = "";
      for (int k = 1; k < p.length; k++) {
        step += p[k];
        place += (k == 1 ? "" : " ") + p[k];
      }
      x.again(0);
      int answer = move(x, p);
      if (answer < 0) {
        C.due(step + " of " + text, Checks.tries(x, step) + " " + Checks.row(x), text.charAt(0) + " 0 1");
        C.due(step + " of " + text, Checks.trail(x, step) + " " + Checks.row(x), "0 1 " + text.charAt(0));
        continue;
      }
      can[p[0]]++;
      x.keep(1);
      if (first.putIfAbsent(Checks.shown(x), p[0] + ": " + place) == null) {
        tets[p[0]][p[1]] = true;
        met[p[0]][p[0] == 2 ? 0 : p[0] == 1 ? 4 * p[2] + p[3] : p[2]] = true;
      }
      String due = first.get(Checks.shown(x));
      x.again(0);
      C.due("leads to what " + step + " comes to from " + text, x.leads(1) + ": " + Checks.row(x), due);
      C.due("tries " + step + " of " + text, Checks.tries(x, step) + " " + Checks.row(x) + " " + x.same(0), answer + " 1 0 1");
      C.due("trail " + step + " of " + text, Checks.trail(x, step) + " " + Checks.row(x) + " " + x.same(1), "1 0 " + answer + " 1");
      C.due("undone", x.undo() + " " + x.same(0), "0 1");
      // Two steps: the second one is where the first one has come to.
      String two = Checks.tries(x, "t" + (text.charAt(0) - '1') + step) + " " + Checks.row(x);
      boolean isOne = x.one(text.charAt(0) - '1') > 0;
      C.due("a step behind another one", two, (isOne ? (Math.max(move(x, p), x.count(0)) + " " + (x.count(2) == 2 ? 2 : 1)) : text.charAt(0) + " 0") + " " + x.same(0));
    }
    x.again(0);
    String due = first.size() + " " + can[0] + " " + can[1] + " " + can[2] + " " + can[3];
    C.due("comes of " + text, x.comes() + " " + Checks.row(x), due);
    C.due("comes once more", x.comes() + " " + Checks.row(x), due);
  }

  private static void simpler() {
    C.begin("25 simpler");
    Left.allButRow(C, "nothing to do", Left::fresh, GluedSolids::simpler, 1, "0");
    Left.allButRow(C, "nothing to do, full", Left::full, GluedSolids::simpler, 8, "0");
    Left.allButRow(C, "nothing to do, a line", of(Left.LINE), GluedSolids::simpler, 8, "0");
    GluedSolids x = Left.made(Left::some);
    C.due("one 3-2", x.simpler() + " " + Checks.row(x) + " " + x.count(2) + " " + x.count(5) + " " + x.count(3), "2 1 4 7 2");
    C.due("no more", x.simpler() + " " + Checks.row(x) + " " + x.count(2), "2 0 4");
    C.due("undone as one", x.undo() + " " + x.count(0), "3 3");
    for (int n = 1; n <= 6; n++) {
      GluedSolids y = Checks.solidOf("2001a");
      String first = Checks.shown(y);
      for (int i = 0; i < n; i++) {
        C.due("more", y.two(y.count(0) - 1, firstGlued(y, y.count(0) - 1)), 3 + i);
      }
      String last = Checks.shown(y);
      PlainModel m = new PlainModel();
      m.text = last;
      m.solid();
      int tets = m.simpler();
      C.due("from " + last, y.simpler() + " " + Checks.row(y), tets + " " + m.row(0));
      C.due("what it is then", Checks.shown(y), PlainModel.show(m.now));
      C.due("undone as one", y.undo() + " " + Checks.shown(y), (m.row(0) > 0 ? n + 1 : n) + " " + (m.row(0) > 0 ? last : Checks.shown(y)));
      C.due("it began with", first, "2031a");
    }
    GluedSolids z = Checks.solidOf("5001a112a223a304a");
    z.one(4);
    C.due("4-1 from eight", z.count(0) + " " + z.simpler() + " " + Checks.row(z), "8 5 1");
  }

  private static void wayRefused() {
    C.begin("26 way, refused");
    for (Left.Calls made : ANY) {
      for (int i : new int[] {LEAST, -1, 2, 3, MOST}) {
        Left.all(C, "way(" + i + ", 1, 8)", made, x -> x.way(i, 1, 8), -1);
      }
      for (int n : new int[] {LEAST, -1, 0, 31, 32, MOST}) {
        Left.all(C, "way(0, " + n + ", 8)", made, x -> x.way(0, n, 8), -1);
        Left.all(C, "way(1, " + n + ", 8), ahead of nothing being kept", made, x -> x.way(1, n, 8), -1);
      }
      for (int most : new int[] {LEAST, -1, 0, 9, 10, MOST}) {
        Left.all(C, "way(0, 1, " + most + ")", made, x -> x.way(0, 1, most), -1);
        Left.all(C, "way(1, 30, " + most + "), ahead of nothing being kept", made, x -> x.way(1, 30, most), -1);
      }
    }
    for (int n : new int[] {1, 2, 29, 30}) {
      for (int most : new int[] {1, 2, 7, 8}) {
        Left.all(C, "nothing is kept", Left::fresh, x -> x.way(0, n, most), -3);
        Left.all(C, "nothing is kept under 1", Left::some, x -> x.way(1, n, most), -3);
        Left.all(C, "not found", Left::some, x -> x.way(0, n, most), -2);
        Left.all(C, "not found, full", Left::full, x -> x.way(1, n, most), -2);
        Left.allButRow(C, "it is so already", x -> Left.full(x) + " " + x.keep(0), x -> x.way(0, n, most), 0, "1");
      }
    }
  }

  /** SOLIDS by the plain model, in the order in which they are found, and how many MOVES there are to each. */
  private static List<int[][][]> found(String start, int n, int most, List<Integer> moves) {
    PlainModel m = new PlainModel();
    m.text = start;
    m.solid();
    List<int[][][]> line = new ArrayList<>();
    line.add(m.now);
    List<String> shown = new ArrayList<>(List.of(PlainModel.show(m.now)));
    moves.add(0);
    for (int h = 0; h < line.size() && line.size() < n; h++) {
      for (int[] place : PlainModel.places(line.get(h))) {
        Object to = PlainModel.moveAt(line.get(h), place);
        if (to instanceof Integer || ((int[][][]) to).length > most || line.size() >= n || shown.contains(PlainModel.show((int[][][]) to))) {
          continue;
        }
        line.add((int[][][]) to);
        shown.add(PlainModel.show((int[][][]) to));
        moves.add(moves.get(h) + 1);
      }
    }
    return line;
  }

  private static int wayTo(GluedSolids x, String start, int[][][] to, int n, int most) {
    Checks.solid(x, PlainModel.show(to));
    x.keep(1);
    Checks.solid(x, start);
    x.edges();
    return x.way(1, n, most);
  }

  /** Each of the first 31 SOLIDS, with room for it, for one fewer and for one more. */
  private static void wayFindsTillN() {
    C.begin("26 way, till n are found");
    for (String start : new String[] {Left.BALLS, "2001a", "3001a112a", Left.FIVE}) {
      List<Integer> moves = new ArrayList<>();
      List<int[][][]> line = found(start, 31, 8, moves);
      C.due("there are enough", line.size(), 31);
      GluedSolids x = new GluedSolids();
      String none = "-2 " + edgesRow(start);
      for (int k = 1; k <= 31; k++) {
        int[][][] to = line.get(k - 1);
        String due = moves.get(k - 1) + " " + k;
        for (int n : new int[] {k - 1, k, k + 1, 30}) {
          if (n >= 1 && n <= 30) {
            C.due("number " + k + " from " + start + ", n " + n, wayTo(x, start, to, n, 8) + " " + Checks.row(x), n < k ? none : due);
          }
        }
      }
      C.due("nothing of the search stays", x.count(0) + " " + x.same(1), start.charAt(0) + " 0");
    }
  }

  private static String edgesRow(String text) {
    GluedSolids x = Checks.solidOf(text);
    x.edges();
    return Checks.row(x);
  }

  private static void wayOfAtMostTets() {
    C.begin("26 way, of at most so many TETS");
    String[] starts = {"1", Left.BALLS, "2001a", "3001a112a", line(5)};
    for (String start : starts) {
      List<int[][][]> targets = found(start, 12, 8, new ArrayList<>());
      for (int most = 1; most <= 8; most++) {
        List<Integer> moves = new ArrayList<>();
        List<int[][][]> line = found(start, 30, most, moves);
        GluedSolids x = new GluedSolids();
        for (int[][][] to : targets) {
          int at = -1;
          for (int k = 0; k < line.size() && at < 0; k++) {
            at = PlainModel.same(line.get(k), to) ? k : -1;
          }
          String due = at < 0 ? "-2 " + edgesRow(start) : moves.get(at) + " " + (at + 1);
          C.due("most " + most + " from " + start + " to " + PlainModel.show(to), wayTo(x, start, to, 30, most) + " " + Checks.row(x), due);
        }
      }
    }
    GluedSolids x = new GluedSolids();
    x.one(0);
    x.keep(0);
    C.due("THE SOLID has more than most, and is found", x.way(0, 30, 1) + " " + Checks.row(x), "0 1");
    x.undo();
    C.due("what is looked for has more", x.way(0, 30, 3) + " " + x.way(0, 30, 4) + " " + Checks.row(x), "-2 1 2");
    x.keep(1);
    x.one(0);
    C.due("back to fewer", x.way(1, 30, 1) + " " + Checks.row(x), "1 2");
  }

  private static void drawnRefused() {
    C.begin("27 drawn");
    for (Left.Calls made : ANY) {
      for (int n : new int[] {LEAST, -12, -1, 0, 13, 14, 256, MOST}) {
        for (int seed : new int[] {LEAST, -1, 0, 1, MOST}) {
          Left.all(C, "drawn(" + seed + ", " + n + ")", made, x -> x.drawn(seed, n), -1);
        }
      }
    }
  }

  /** R as a number without sign, by long numbers alone. */
  private static long state;

  private static int draw(int n) {
    state = (state * 1103515245L + 12345L) % 4294967296L;
    return (int) (state / 65536L % n);
  }

  private static String byHand(GluedSolids y, int seed, int n) {
    state = seed < 0 ? seed + 4294967296L : seed;
    int done = 0;
    for (int i = 0; i < n; i++) {
      int kind = draw(4);
      int tet = draw(8);
      int u = kind == 2 ? 0 : draw(4);
      int v = kind == 1 ? draw(4) : 0;
      int answer = kind == 0 ? y.two(tet, u) : kind == 1 ? y.three(tet, u, v) : kind == 2 ? y.one(tet) : y.four(tet, u);
      done += answer > 0 ? 1 : 0;
    }
    return done + " " + y.manifold();
  }

  private static void drawnBySeed() {
    C.begin("27 drawn, by seed");
    int[] seeds = {LEAST, LEAST + 1, MOST, MOST - 1, -1, 0, 1, 2, 65535, 65536, -65536, 1 << 30, 12345, -12345, 1103515245, -1103515245};
    int most = 0;
    for (Left.Calls made : ANY) {
      for (int seed : seeds) {
        for (int n = 1; n <= 12; n++) {
          GluedSolids y = Left.made(made);
          String row = byHand(y, seed, n);
          int times = n;
          Left.allButRow(C, "drawn(" + seed + ", " + n + ")", made, x -> x.drawn(seed, times), y.count(0), row);
          most = Math.max(most, row.charAt(0) - '0');
        }
      }
    }
    C.due("some were done", most > 0, true);
    GluedSolids x = Left.made(Left::some);
    C.due("the same seed, the same trail", x.drawn(7, 12) + Checks.row(x), x.drawn(7, 12) + Checks.row(x));
  }

  private static void neverMoreThanEight() {
    C.begin("never more than 8 TETS");
    for (int tets = 6; tets <= 8; tets++) {
      for (int seed = 0; seed < 300; seed++) {
        GluedSolids x = Checks.solidOf(line(tets));
        int answer = x.drawn(seed * 104729, 12);
        C.due("drawn from " + tets, answer >= 1 && answer <= 8, true);
      }
      GluedSolids x = Checks.solidOf(line(tets));
      StringBuilder b = new StringBuilder();
      for (int f = 0; f < 4; f++) {
        b.append(x.glued(0, f, 0) > 0 ? "f0" + f : "");
      }
      String step = b.substring(0, 3);
      String text = step.repeat(26);
      int would = Checks.tries(x, text);
      C.due("tries from " + tets, would <= 8, true);
      C.due("trail from " + tets, Checks.trail(x, text) >= 0 && x.count(0) == would, true);
      C.due("the ROW of it", x.row(1), would);
      GluedSolids y = Checks.solidOf(line(tets));
      C.due("one from " + tets, y.one(0), -3);
      y.comes();
      C.due("comes of 1-4", y.row(2), 0);
    }
    GluedSolids z = Checks.solidOf(line(7));
    C.due("8, then no more", z.two(0, firstGlued(z, 0)) + " " + z.two(0, firstGlued(z, 0)) + " " + z.one(0) + " " + z.count(0), "8 -3 -3 8");
  }

  private static void undoOfEight() {
    C.begin("28 undo, of 8");
    Left.all(C, "none", Left::fresh, GluedSolids::undo, -1);
    Left.all(C, "none left", x -> {
      Left.full(x);
      for (int i = 0; i < 8; i++) {
        x.undo();
      }
      return "undone";
    }, GluedSolids::undo, -1);
    for (int done = 0; done <= 20; done++) {
      GluedSolids x = new GluedSolids();
      List<String> were = new ArrayList<>();
      for (int i = 0; i < done; i++) {
        were.add(Checks.shown(x));
        Checks.solid(x, line(1 + i % 7));
      }
      x.edges();
      String row = Checks.row(x);
      int can = Math.min(done, 8);
      C.due(done + " done", x.count(2), can);
      for (int i = 1; i <= can; i++) {
        C.due("undo", x.undo() + " " + x.count(2), (can - i) + " " + (can - i));
        C.due("the ROW stays", Checks.row(x), row);
        C.due("what it was", Checks.shown(x), were.get(done - i));
        x.edges();
        row = Checks.row(x);
      }
      C.due("no more", x.undo() + " " + x.count(2), "-1 0");
    }
    GluedSolids x = Left.made(Left::full);
    x.undo();
    x.undo();
    C.due("six left, then more", Checks.solid(x, "1") + " " + x.count(2) + " " + x.one(0) + " " + x.count(2) + " " + x.one(0) + " " + x.count(2), "1 7 4 8 7 8");
    String told = "";
    for (int i = 0; i < 9; i++) {
      told += x.undo() + ":" + x.count(0) + " ";
    }
    C.due("the latest ones", told, "7:4 6:1 5:8 4:7 3:6 2:5 1:4 0:3 -1:3 ");
  }

  private static void undoOfEachKind() {
    C.begin("28 undo, of each kind");
    Map<String, Left.Calls> counted = new LinkedHashMap<>();
    counted.put("solid", x -> Checks.solid(x, Left.BALLS));
    counted.put("two", x -> x.two(0, firstGlued(x, 0)));
    counted.put("three", x -> {
      int[] at = edgeOfThree(x);
      return x.three(at[0], at[1], at[2]);
    });
    counted.put("one", x -> x.one(0));
    counted.put("trail", x -> Checks.trail(x, "t0t9t9"));
    counted.put("simpler", GluedSolids::simpler);
    counted.forEach((name, call) -> {
      GluedSolids x = Left.made(Left::some);
      String was = Checks.shown(x);
      C.due(name + " is done", (int) call.on(x) >= 0 && x.count(2) == 4, true);
      C.due(name + " is undone", x.undo() + " " + Checks.shown(x), "3 " + was);
    });
    GluedSolids four = new GluedSolids();
    four.one(0);
    String was = Checks.shown(four);
    C.due("four is done", Checks.trail(four, backFour()) + " " + four.undo() + " " + Checks.shown(four), "1 1 " + was);
    for (int i = 0; i < 16 && four.count(2) < 2; i++) {
      four.four(i / 4, i % 4);
    }
    C.due("four is undone", four.count(0) + " " + four.undo() + " " + Checks.shown(four), "1 1 " + was);
    Map<String, Left.Calls> not = new LinkedHashMap<>();
    not.put("solid that is refused", x -> Checks.solid(x, "2"));
    not.put("two that is refused", x -> x.two(9, 9));
    not.put("trail of which none was done", x -> Checks.trail(x, "t9"));
    not.put("an empty trail", x -> Checks.trail(x, ""));
    not.put("tries", x -> Checks.tries(x, "t0"));
    not.put("drawn", x -> x.drawn(3, 12));
    not.put("sheet", x -> x.sheet(2, 32, 0, 0));
    not.put("sheet that frees", x -> x.sheet(2, 11, 0, 0));
    not.put("keep", x -> x.keep(1));
    not.put("way", x -> x.way(0, 30, 8));
    not.put("leads", x -> x.leads(0));
    not.put("comes", GluedSolids::comes);
    not.put("heard", x -> x.heard(0, 0));
    not.put("again that is refused", x -> x.again(1));
    not.forEach((name, call) -> {
      GluedSolids x = Left.made(Left::some);
      call.on(x);
      C.due(name + " is not to be undone", x.count(2) + " " + x.undo() + " " + Checks.shown(x), "3 2 " + Left.BALLS);
    });
    GluedSolids x = Left.made(Left::full);
    C.due("again() forgets them", x.again(1) + " " + x.count(2) + " " + x.undo() + " " + Checks.shown(x), "true 0 -1 " + Left.BALLS);
    C.due("simpler that did nothing", x.simpler() + " " + x.count(2), "2 0");
  }
}
