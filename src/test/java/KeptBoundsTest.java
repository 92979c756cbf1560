import java.util.Arrays;
import java.util.List;

/** Promises 29 to 36: each sentence that names a bound, an empty or a full thing or a refusal, at it and next to it. */
public final class KeptBoundsTest {
  private static final Checks C = new Checks();
  private static final int LEAST = Integer.MIN_VALUE;
  private static final int MOST = Integer.MAX_VALUE;
  private static final List<Left.Calls> ANY = Arrays.asList(Left::fresh, Left::some, Left::full);
  private static final int[] GREATEST = {48, 1, 1, 7, 1};

  /** Eight TETS, an EDGE of DEGREE 47 and one of 1. */
  private static final String FORTY_SEVEN = "8000g021a032a103a114a133q205a216a226i325d336g407a425v437d517q627f";
  private static final String TURNED = "3021a032a132h";

  public static void main(String[] args) {
    heardRefused();
    heardTaken();
    heardEight();
    forget();
    fitsByDegree();
    fitsByWhatElse();
    fitsOfNothing();
    fitsOfEight();
    fitsWhicheverIsFirst();
    keep();
    again();
    same();
    count();
    row();
    C.end("bounds of what was heard and kept");
  }

  private static void heardRefused() {
    C.begin("29 heard, refused");
    for (Left.Calls made : ANY) {
      for (int what : new int[] {LEAST, -1, 5, 6, 8, 256, MOST}) {
        for (int v : new int[] {-1, 0, 1, 48}) {
          Left.all(C, "heard(" + what + ", " + v + ")", made, x -> x.heard(what, v), -1);
        }
      }
      for (int what = 0; what < 5; what++) {
        int of = what;
        for (int v : new int[] {LEAST, -2, -1, GREATEST[what] + 1, GREATEST[what] + 2, 49, 256, MOST}) {
          Left.all(C, "heard(" + what + ", " + v + ")", made, x -> x.heard(of, v), -1);
        }
      }
    }
    for (int what = 0; what < 5; what++) {
      int of = what;
      for (int v : new int[] {0, 1, GREATEST[what]}) {
        Left.all(C, "a ninth: heard(" + what + ", " + v + ")", Left::full, x -> x.heard(of, v), -1);
      }
    }
  }

  private static void heardTaken() {
    C.begin("29 heard");
    for (int what = 0; what < 5; what++) {
      for (int v = 0; v <= GREATEST[what]; v++) {
        GluedSolids x = new GluedSolids();
        C.due("heard(" + what + ", " + v + ")", x.heard(what, v) + " " + x.count(3) + " " + x.forget(), "1 1 1");
      }
    }
    GluedSolids x = Left.made(Left::some);
    String row = Checks.row(x);
    C.due("a third", x.heard(3, 7) + " " + x.count(3), "3 3");
    C.due("it leaves", Checks.row(x) + ", " + x.count(0) + " " + x.count(2) + " " + x.count(5) + " " + x.same(0), row + ", 3 3 7 0");
  }

  private static void heardEight() {
    C.begin("29 heard, 8");
    GluedSolids x = new GluedSolids();
    for (int i = 1; i <= 8; i++) {
      C.due("number " + i, x.heard(i % 5, 0) + " " + x.count(3), i + " " + i);
      C.due("others, number " + i, x.heard(i % 5, 50) + " " + x.count(3), "-1 " + i);
    }
    for (int i = 0; i < 3; i++) {
      C.due("number 9", x.heard(0, 0) + " " + x.count(3), "-1 8");
    }
    C.due("all forgotten", x.forget() + " " + x.heard(0, 0), "8 1");
    // What was heard stays when THE SOLID becomes another one.
    Checks.solid(x, Left.BALLS);
    x.keep(0);
    x.two(0, 0);
    x.undo();
    x.again(0);
    x.sheet(2, 8, 0, 0);
    Checks.trail(x, "t0");
    x.simpler();
    C.due("heard still", x.count(3), 1);
    GluedSolids eighth = new GluedSolids();
    for (int i = 0; i < 7; i++) {
      eighth.heard(0, 1);
    }
    C.due("the eighth counts", eighth.fits() + " " + eighth.heard(2, 1) + " " + eighth.fits() + " " + eighth.count(4), "6 8 0 0");
  }

  private static void forget() {
    C.begin("30 forget");
    Left.all(C, "nothing heard", Left::fresh, GluedSolids::forget, 0);
    for (int n = 0; n <= 9; n++) {
      GluedSolids x = Left.made(Left::full);
      x.forget();
      for (int i = 0; i < n; i++) {
        x.heard(2, 1);
      }
      String row = Checks.row(x);
      C.due(n + " heard", x.forget() + " " + x.count(3) + " " + x.forget(), Math.min(n, 8) + " 0 0");
      C.due("it leaves", Checks.row(x) + " " + x.count(2) + " " + x.count(5), row + " 8 80");
      C.due("none binds any more", x.fits(), 1);
    }
  }

  private static void fitsByDegree() {
    C.begin("31 fits, by DEGREE");
    for (int v = 0; v <= 48; v++) {
      int degree = v;
      GluedSolids x = Checks.solidOf(Left.ONE_EDGE);
      x.heard(0, v);
      C.due("48 is " + v + " or more", x.fits() + " " + Checks.row(x), "1 0 0 1");
      GluedSolids y = Checks.solidOf(FORTY_SEVEN);
      y.heard(0, v);
      C.due("47 and 1, " + v + " or more", y.fits(), v <= 1 ? 2 : v <= 47 ? 1 : 0);
      Left.allButRow(C, "47 and 1, " + v + " or more", z -> Checks.solid(z, FORTY_SEVEN) + z.heard(0, degree), GluedSolids::fits,
          v <= 1 ? 2 : v <= 47 ? 1 : 0, v > 47 ? "" : firstOf(FORTY_SEVEN, v));
    }
    GluedSolids x = new GluedSolids();
    x.heard(0, 1);
    C.due("DEGREE 1 is 1 or more", x.fits(), 6);
    x.heard(0, 2);
    C.due("not 2", x.fits() + " " + x.count(4), "0 0");
  }

  /** The first EDGE of a TET whose EDGE has so great a DEGREE. */
  private static String firstOf(String text, int degree) {
    GluedSolids x = Checks.solidOf(text);
    for (int i = 0; i < 16 * x.count(0); i++) {
      if (i / 4 % 4 < i % 4 && x.degree(i / 16, i / 4 % 4, i % 4) >= degree) {
        return i / 16 + " " + i / 4 % 4 + " " + i % 4;
      }
    }
    return "";
  }

  private static String fitting(String text, int what, int v) {
    GluedSolids x = Checks.solidOf(text);
    x.heard(what, v);
    return x.fits() + ": " + Checks.row(x);
  }

  private static void fitsByWhatElse() {
    C.begin("31 fits, by what else");
    C.due("FREE", fitting("1020b", 1, 1) + ", " + fitting("1020b", 1, 0), "3: 0 0 2, 1: 0 0 1");
    C.due("all FREE", fitting("1", 1, 1) + ", " + fitting("1", 1, 0), "6: 0 0 1, 0: ");
    C.due("none FREE", fitting(Left.BALLS, 1, 1) + ", " + fitting(Left.BALLS, 1, 0), "0: , 6: 0 0 1");
    C.due("REVERSED", fitting(TURNED, 2, 1), "1: 0 0 1");
    GluedSolids x = Checks.solidOf(TURNED);
    C.due("not REVERSED", fitting(TURNED, 2, 0), x.edges() - 1 + ": 0 0 2");
    C.due("none REVERSED", fitting("1", 2, 1) + ", " + fitting("1", 2, 0), "0: , 6: 0 0 1");
    // 2031a: EDGES 0 1, 0 2, 1 2 are of both TETS, three more are of each one.
    C.due("TET 0", fitting("2031a", 3, 0), "6: 0 0 1");
    C.due("TET 1", fitting("2031a", 3, 1), "6: 0 0 1");
    C.due("a TET that there is not", fitting("2031a", 3, 2) + ", " + fitting("2031a", 3, 7), "0: , 0: ");
    GluedSolids both = Checks.solidOf("2031a");
    both.heard(3, 0);
    both.heard(3, 1);
    C.due("both", both.fits() + ": " + Checks.row(both) + ", " + both.count(3), "3: 0 0 1, 2");
    GluedSolids line = Checks.solidOf(Left.LINE);
    for (int tet = 0; tet < 8; tet++) {
      C.due("TET " + tet + " of eight", fitting(Checks.shown(line), 3, tet).startsWith("6: "), true);
    }
    C.due("one POINT", fitting(Left.FIVE, 4, 1) + ", " + fitting(Left.FIVE, 4, 0), "2: 0 0 1, 0: ");
    C.due("two POINTS", fitting("1", 4, 1) + ", " + fitting("1", 4, 0), "0: , 6: 0 0 1");
    C.due("of both kinds", fitting("1000g020b", 4, 1) + ", " + fitting("1000g020b", 4, 0), "2: 0 0 1, 1: 0 0 2");
  }

  private static void fitsOfNothing() {
    C.begin("31 fits, nothing heard");
    Left.allButRow(C, "fits", Left::fresh, GluedSolids::fits, 6, "0 0 1");
    Left.allButRow(C, "fits", x -> Left.full(x) + " " + x.forget(), GluedSolids::fits, 1, "0 0 1");
    Left.allButRow(C, "nothing fits, the ROW is empty", x -> Left.some(x) + " " + x.heard(0, 48), GluedSolids::fits, 0, "");
  }

  private static void fitsOfEight() {
    C.begin("31 fits, all that was heard");
    Left.allButRow(C, "eight that fit", Left::full, GluedSolids::fits, 1, "0 0 1");
    for (int place = 0; place < 8; place++) {
      GluedSolids x = Checks.solidOf(Left.ONE_EDGE);
      for (int i = 0; i < 8; i++) {
        x.heard(1, i == place ? 1 : 0);
      }
      C.due("number " + place + " does not", x.fits() + " " + x.count(4), "0 0");
    }
    GluedSolids x = new GluedSolids();
    x.heard(1, 0);
    x.heard(1, 1);
    C.due("one against the other", x.fits() + " " + x.count(4), "0 0");
  }

  /** The first EDGE that fits is at any TET and at any CORNERS; of the plain model's answers each such place is met. */
  private static void fitsWhicheverIsFirst() {
    C.begin("31 fits, the first");
    String[] texts = {
      "1020b", "1000g020b", "2031a", TURNED, Left.LINE, FORTY_SEVEN,
      "3001a011b022a032c122m132j", "5011a021i032a122l133a214a303o314e404q",
      "6021a032a133a214a225a305s314t425i", "6000i021a032a103a113i132l213o224a334a405a415b525j", "6031a122a203a214a314e324q335a",
      "6011a022a033a101p134a205a213t234s314o405k525p", "6021a032a101i132k203a214a314j324b335a505o", "5021a031c102a113a213j234a304n334q",
    };
    boolean[] tets = new boolean[8];
    boolean[] corners = new boolean[16];
    for (String text : texts) {
      PlainModel m = new PlainModel();
      m.text = text;
      m.solid();
      GluedSolids x = Checks.solidOf(text);
      for (int tet = 0; tet < m.now.length; tet++) {
        for (int what = 0; what < 5; what++) {
          for (int v : what == 0 ? new int[] {1, 2, 3, 4, 5, 47, 48} : new int[] {0, 1}) {
            m.forget();
            m.heard(3, tet);
            m.heard(what, v);
            x.forget();
            x.heard(3, tet);
            x.heard(what, v);
            int due = m.fits();
            String row = m.told.toString().replaceAll("[\\[\\],]", "");
            C.due("TET " + tet + ", heard(" + what + ", " + v + ") of " + text, x.fits() + ": " + Checks.row(x), due + ": " + row);
            if (due > 0) {
              tets[m.told.get(0).intValue()] = true;
              corners[4 * m.told.get(1).intValue() + m.told.get(2).intValue()] = true;
            }
          }
        }
      }
    }
    C.due("TETS", Arrays.toString(Arrays.copyOf(tets, 6)), "[true, true, true, true, true, true]");
    C.due("CORNERS", corners[1] && corners[2] && corners[3] && corners[6] && corners[7] && corners[11], true);
  }

  private static void keep() {
    C.begin("32 keep");
    for (Left.Calls made : ANY) {
      for (int i : new int[] {LEAST, -2, -1, 2, 3, 256, MOST}) {
        Left.all(C, "keep(" + i + ")", made, x -> x.keep(i), false);
      }
      GluedSolids x = Left.made(made);
      String row = Checks.row(x);
      C.due("done", x.keep(0) + " " + x.keep(1), "true true");
      C.due("the ROW stays", Checks.row(x), row);
      C.due("kept", x.same(0) + " " + x.same(1), "1 1");
    }
    GluedSolids x = Left.made(Left::full);
    int undo = x.count(2);
    x.keep(0);
    C.due("kept instead", x.same(0) + " " + x.same(1) + " " + (x.count(2) - undo), "1 0 0");
    x.undo();
    C.due("what is kept stays when THE SOLID does not", x.same(0) + " " + x.again(0) + " " + Checks.shown(x), "0 true " + Left.ONE_EDGE);
    Left.all(C, "kept once more", y -> Left.some(y) + " " + y.keep(1), y -> y.keep(1), true);
  }

  private static void again() {
    C.begin("33 again");
    for (Left.Calls made : ANY) {
      for (int i : new int[] {LEAST, -2, -1, 2, 3, 256, MOST}) {
        Left.all(C, "again(" + i + ")", made, x -> x.again(i), false);
      }
    }
    Left.all(C, "nothing kept", Left::fresh, x -> x.again(0), false);
    Left.all(C, "nothing kept", Left::fresh, x -> x.again(1), false);
    Left.all(C, "nothing kept under 1", Left::some, x -> x.again(1), false);
    for (int i = 0; i < 2; i++) {
      GluedSolids x = Left.made(Left::full);
      C.due("again(" + i + ")", x.again(i) + " " + x.count(2) + " " + x.undo(), "true 0 -1");
      C.due("it leaves", x.count(3) + " " + x.count(4) + " " + x.count(5) + " " + x.same(i) + " " + x.same(1 - i), "8 65 80 1 0");
    }
    GluedSolids x = Left.made(Left::some);
    x.keep(1);
    C.due("as it is already", x.again(1) + " " + x.count(2) + " " + x.same(1), "true 0 1");
    x.one(0);
    C.due("done behind it is undone", x.count(2) + " " + x.undo() + " " + x.same(1), "1 0 1");
    GluedSolids y = new GluedSolids();
    y.one(0);
    y.keep(1);
    y.undo();
    C.due("a SOLID that was undone", y.again(1) + " " + y.count(0) + " " + y.again(0), "true 4 false");
  }

  private static void same() {
    C.begin("34 same");
    for (Left.Calls made : ANY) {
      for (int i : new int[] {LEAST, -2, -1, 2, 3, 256, MOST}) {
        Left.all(C, "same(" + i + ")", made, x -> x.same(i), -1);
      }
    }
    Left.all(C, "nothing kept", Left::fresh, x -> x.same(0), -2);
    Left.all(C, "nothing kept", Left::fresh, x -> x.same(1), -2);
    Left.all(C, "nothing kept under 1", Left::some, x -> x.same(1), -2);
    Left.allButRow(C, "not the same", Left::some, x -> x.same(0), 0, "1");
    Left.allButRow(C, "not the same, full", Left::full, x -> x.same(0), 0, "8");
    Left.allButRow(C, "not the same, two TETS", Left::full, x -> x.same(1), 0, "2");
    Left.allButRow(C, "the same", x -> Left.full(x) + " " + x.keep(1), x -> x.same(1), 1, "8");
    // Unlike in their last FACES alone, and in how many TETS there are alone.
    GluedSolids x = Checks.solidOf("2011a021a031a");
    x.keep(0);
    Checks.solid(x, "2011a021a031i");
    C.due("unlike in one letter", x.same(0) + " " + Checks.row(x), "0 2");
    Checks.solid(x, "2021a031a");
    C.due("unlike in one pair", x.same(0), 0);
    Checks.solid(x, "2110a120a130a");
    C.due("told otherwise", x.same(0), 1);
  }

  private static void count() {
    C.begin("35 count");
    for (Left.Calls made : ANY) {
      for (int what : new int[] {LEAST, -2, -1, 6, 7, 256, MOST}) {
        Left.all(C, "count(" + what + ")", made, x -> x.count(what), -1);
      }
    }
    int[][] due = {{1, 4, 0, 0, 0, 0}, {3, 0, 3, 2, 5, 7}, {8, 0, 8, 8, 65, 80}};
    for (int i = 0; i < 3; i++) {
      for (int what = 0; what < 6; what++) {
        int of = what;
        Left.all(C, "count(" + what + ")", ANY.get(i), x -> x.count(of), due[i][what]);
      }
    }
    GluedSolids x = Checks.solidOf(Left.LINE);
    C.due("FACES that are free", x.count(1), 18);
    C.due("an empty ROW behind one", x.edges() + x.count(4) + " " + x.group() + x.count(4), (27 + 5) + " 00");
  }

  private static void row() {
    C.begin("36 row");
    for (int k = 0; k < 3; k++) {
      Left.Calls made = ANY.get(k);
      int size = Left.made(made).count(4);
      for (int i : new int[] {LEAST, -65, -2, -1, size, size + 1, 65, 66, 1 << 30, MOST}) {
        Left.all(C, "row(" + i + ")", made, x -> Checks.rowAt(x, i), "none");
      }
      for (int i = 0; i < size; i++) {
        int at = i;
        C.due("row(" + i + ")", Checks.rowAt(Left.made(made), at).equals("none"), false);
      }
    }
    Left.all(C, "the first", Left::some, x -> x.row(0), 1);
    Left.all(C, "the last", Left::full, x -> x.row(64), (int) 'g');
    GluedSolids x = Left.made(Left::full);
    x.same(0);
    C.due("nothing of a longer one is left", Checks.rowAt(x, 0) + " " + Checks.rowAt(x, 1), "8 none");
    x.group();
    x.forget();
    x.heard(0, 48);
    x.heard(1, 1);
    C.due("an empty ROW", x.fits() + " " + Checks.rowAt(x, 0) + " " + Checks.rowAt(x, -1), "0 none none");
  }
}
