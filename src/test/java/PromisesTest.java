import java.util.ArrayList;
import java.util.Arrays;
import java.util.Collections;
import java.util.List;
import java.util.Random;

/** Each promise of the document by itself: ordinary inputs, the edges that it names, and wrong inputs. */
public final class PromisesTest {
  private static final Checks C = new Checks();

  /** Two TETS, each FACE glued to the other's: a sphere. */
  private static final String BALLS = "2001a011a021a031a";
  /** One TET with one POINT, of group 5. */
  private static final String FIVE = "1000j020n";
  /** Two TETS of group 2, 2. */
  private static final String TWO_TWO = "2001a011q021x031h";
  /** Not TWO-SIDED, of RANK 1. */
  private static final String ONE_SIDED = "2001a011a021j031s";
  /** One TET, a pair of FACES glued so that an EDGE is REVERSED. */
  private static final String REVERSED = "1020h";

  public static void main(String[] args) {
    newObject();
    texts();
    solid();
    glued();
    shows();
    sheet();
    degreeAndPoint();
    edgesPointsManifold();
    sidesGroupEulerAlike();
    twoAndThree();
    oneAndFour();
    fourAroundOnePoint();
    trail();
    tries();
    comesAndLeads();
    simpler();
    way();
    drawn();
    undo();
    heard();
    kept();
    countAndRow();
    C.end("promises");
  }

  private static void newObject() {
    C.begin("1 a new object");
    GluedSolids x = new GluedSolids();
    C.due("counts", x.count(0) + " " + x.count(1) + " " + x.count(2) + " " + x.count(3) + " " + x.count(4) + " " + x.count(5), "1 4 0 0 0 0");
    C.due("shown", Checks.shown(x), "1");
    C.due("same(0)", x.same(0), -2);
    C.due("same(1)", x.same(1), -2);
  }

  private static void texts() {
    C.begin("2 sign");
    GluedSolids x = new GluedSolids();
    C.due("highest byte first", Checks.solid(x, "1020h"), 1);
    for (int i = 1; i <= 20; i++) {
      C.due("sign", x.sign(0x31313131), 4 * i);
    }
    C.due("sign beyond 80", x.sign(0x31313131), -1);
    C.due("signs", x.count(5), 80);
    C.begin("3 end");
    C.due("end(80)", x.end(80), true);
    C.due("end(81)", x.end(81), false);
    C.due("end(-1)", x.end(-1), false);
    C.due("signs", x.count(5), 80);
    C.due("end(77)", x.end(77), true);
    C.due("sign", x.sign(0), -1);
    C.due("end(76)", x.end(76), true);
    C.due("sign", x.sign(-1), 80);
    C.due("end(0)", x.end(0), true);
    C.due("signs", x.count(5), 0);
    x.edges();
    x.sign(0);
    x.end(3);
    C.due("the ROW stays", Checks.row(x), "1 2 2 2 1");
  }

  private static void solid() {
    C.begin("4 solid");
    GluedSolids x = new GluedSolids();
    String[] bad = {
      "", "0", "9", "a", "10", "100", "1000", "1000gx", "2200a", "2004a", "2040a", "200", "20/1a", "2001`", "2001y",
      "2001A", "1000a", "1000d", "1000g01", "1000g010g", "1000g020c", "2001a0010a", "2001a1100a", "2001a110g",
    };
    int[] answers = {
      -1, -1, -1, -1, -3, -4, -5, -6, -2, -4, -3, -4, -3, -5, -5, -5, -5, -5, -7, -7, -9, -7, -9, -9,
    };
    x.points();
    for (int i = 0; i < bad.length; i++) {
      C.due("solid of " + bad[i], Checks.solid(x, bad[i]), answers[i]);
      C.due("what it was behind " + bad[i], x.count(0) + " " + x.count(1) + " " + x.count(2) + " " + x.count(5), "1 4 0 0");
    }
    C.due("apart", Checks.solid(x, "2000g"), -200);
    C.due("apart", Checks.solid(x, "4001a203a"), -200);
    C.due("a sign ahead of being apart", Checks.solid(x, "2000g0"), -7);
    C.due("the ROW stays", Checks.row(x), "0 1");
    C.due("eight", Checks.solid(x, "8001a112a223a304a415a526a637a"), 8);
    C.due("can be undone", x.count(2), 1);
    C.due("THE TEXT is empty", x.count(5), 0);
    C.due("as it is", Checks.solid(x, "1000g"), 1);
    C.due("least", Checks.shown(x), "1020b");
    C.due("as another tells it", Checks.solid(x, "2120h110x130q100a"), 2);
    String once = Checks.shown(x);
    C.due("told alike", once, TWO_TWO);
    C.due("again", Checks.solid(x, once), 2);
    C.due("same text", Checks.shown(x), once);
    C.due("not TET 8", Checks.solid(x, "8008a"), -4);
    C.due("TET 7", Checks.solid(x, "8007a"), -200);
  }

  private static void glued() {
    C.begin("5 glued");
    GluedSolids x = Checks.solidOf("1000j020j");
    C.due("TET", Checks.glued(x, 0, 0, 0), 0);
    C.due("permutation", Checks.glued(x, 0, 0, 1), 9);
    C.due("FACE", Checks.glued(x, 0, 0, 2), 1);
    C.due("back", Checks.glued(x, 0, 1, 1) + " " + Checks.glued(x, 0, 1, 2), "18 0");
    int[][] none = {{-1, 0, 0}, {1, 0, 0}, {0, -1, 0}, {0, 4, 0}, {0, 0, -1}, {0, 0, 3}, {1 << 30, 1 << 30, 0}, {Integer.MIN_VALUE, 0, 1}};
    for (int[] a : none) {
      C.due("none such", Checks.glued(x, a[0], a[1], a[2]), "none");
    }
    GluedSolids y = new GluedSolids();
    C.due("free", Checks.glued(y, 0, 3, 0) + Checks.glued(y, 0, 3, 1) + Checks.glued(y, 0, 3, 2), "-1-1-1");
    C.due("free, another what", Checks.glued(y, 0, 3, 3), "none");
  }

  private static void shows() {
    C.begin("6 shows");
    GluedSolids x = Checks.solidOf(BALLS);
    C.due("signs", x.shows(), 17);
    C.due("numbers", x.count(4), 17);
    C.due("each pair once", Checks.shown(x), BALLS);
    C.due("one TET", Checks.shown(Checks.solidOf(FIVE)), FIVE);
    C.due("free ones first", Checks.shown(Checks.solidOf("2001a011a021a")), "2011a021a031a");
    GluedSolids y = Checks.solidOf("8001a112a223a304a415a526a637a");
    String text = Checks.shown(y);
    y.keep(0);
    C.due("read back", Checks.solid(y, text), 8);
    C.due("the same", y.same(0), 1);
  }

  private static void sheet() {
    C.begin("7 sheet");
    GluedSolids x = Checks.solidOf(BALLS);
    C.due("nothing becomes free", x.sheet(2, 8, 0, 0), 0);
    C.due("more entries than FACES", x.sheet(2, 32, 0, 1), 0);
    C.due("another kind", x.sheet(4, 0, 0, 0) + " " + x.sheet(-1, 0, 0, 0), "-1 -1");
    C.due("n above 32", x.sheet(0, 33, 0, 0) + " " + x.sheet(3, 33, 0, 0) + " " + x.sheet(9, 33, 0, 0), "-1 -1 -1");
    C.due("n below 0", x.sheet(0, -1, 0, 0) + " " + x.sheet(1, -5, 0, 0) + " " + x.sheet(2, Integer.MIN_VALUE, 0, 0), "-2 -2 -2");
    C.due("a missing one", x.sheet(3, 8, 0, 0) + " " + x.sheet(3, -1, 0, 0), "-3 -3");
    C.due("apart", x.sheet(2, 8, -1, 0), -4);
    C.due("no entries", x.sheet(0, 0, 1, 1), -4);
    C.due("nothing changed", x.count(1) + " " + Checks.shown(x), "0 " + BALLS);
    C.due("bytes wrap", x.sheet(0, 8, 125, 1), -4);
    C.due("a byte below 0", x.sheet(0, 8, 128 - 256, 256), -4);
    C.due("as bytes", Checks.solidOf(BALLS).sheet(0, 8, 127, 256), 0);
    C.due("as bytes, one", Checks.solidOf(BALLS).sheet(0, 8, 121, 1), 2);
    C.due("as shorts, one", Checks.solidOf(BALLS).sheet(1, 8, 32761, 1), 2);
    C.due("as shorts, not as bytes", Checks.solidOf(BALLS).sheet(1, 8, 128, 0), 0);
    C.due("as ints, not as shorts", Checks.solidOf(BALLS).sheet(2, 8, 32768, 0), 0);
    C.due("as ints, over the end", Checks.solidOf(BALLS).sheet(2, 8, Integer.MAX_VALUE - 6, 1), 2);
    C.due("FACES that have none", Checks.solidOf(BALLS).sheet(2, 5, 1, 1), 6);
    C.due("both of a pair", Checks.solidOf(BALLS).sheet(2, 8, 3, -2), -4);
    C.due("the half of them", Checks.solidOf(BALLS).sheet(2, 4, 0, 0), -4);
    C.due("one alone", new GluedSolids().sheet(1, 0, 0, 0), 4);
    GluedSolids y = Checks.solidOf(BALLS);
    y.sheet(2, 8, -1, 1);
    C.due("numbered anew", Checks.shown(y), "2011a021a031a");
    C.due("not to be undone", y.count(2) + " " + y.undo() + " " + y.count(0), "1 0 1");
    GluedSolids z = Checks.solidOf(BALLS);
    z.keep(0);
    z.two(0, 0);
    z.sheet(2, 12, 0, 0);
    C.due("what was done ahead of it is undone", z.undo() + " " + z.same(0), "1 1");
  }

  private static void degreeAndPoint() {
    C.begin("8 degree");
    GluedSolids x = Checks.solidOf(REVERSED);
    C.due("REVERSED", x.degree(0, 0, 1) + " " + Checks.row(x), "1 0 1");
    C.due("FREE", x.degree(0, 3, 2) + " " + Checks.row(x), "1 1 0");
    C.due("FREE, of two", x.degree(0, 2, 0) + " " + Checks.row(x), "2 1 0");
    C.due("like CORNERS", x.degree(0, 2, 2), -1);
    C.due("others", x.degree(1, 0, 1) + " " + x.degree(-1, 0, 1) + " " + x.degree(0, 4, 1) + " " + x.degree(0, 1, -1), "-1 -1 -1 -1");
    C.due("the ROW stays", Checks.row(x), "1 0");
    GluedSolids y = Checks.solidOf(FIVE);
    C.due("three times at one TET", y.degree(0, 0, 1) + " " + Checks.row(y), "3 0 0");
    C.begin("9 point");
    C.due("ROUND", y.point(0, 2) + " " + Checks.row(y), "4 4 2 1");
    GluedSolids one = new GluedSolids();
    C.due("one TET", one.point(0, 3) + " " + Checks.row(one), "1 3 1 0");
    C.due("none such", one.point(0, 4) + " " + one.point(0, -1) + " " + one.point(1, 0) + " " + one.point(-1, 0), "-1 -1 -1 -1");
    C.due("the ROW stays", Checks.row(one), "3 1 0");
    GluedSolids four = new GluedSolids();
    four.one(0);
    int round = 0;
    for (int v = 0; v < 4; v++) {
      int size = four.point(0, v);
      round += Checks.row(four).equals("4 2 1") && size == 4 ? 1 : 0;
    }
    C.due("the new POINT is ROUND", round, 1);
    GluedSolids open = Checks.solidOf("2001a011a021a");
    C.due("a POINT at which a FACE is free", open.point(0, 1) + " " + Checks.row(open), "2 3 1 0");
    C.due("one at which none is", open.point(0, 0) + " " + Checks.row(open), "2 3 2 1");
    // A torus around its one POINT: the figure eight knot's complement, two TETS.
    GluedSolids torus = Checks.solidOf(torusText());
    C.due("CHI 0", torus.point(0, 0) + " " + Checks.row(torus), "8 4 0 0");
  }

  /** Two TETS, two EDGES of DEGREE 6, one POINT: found by trying, so that the test needs no text by heart. */
  private static String torusText() {
    GluedSolids x = new GluedSolids();
    for (int i = 0; i < 24 * 24 * 24; i++) {
      String text = "2001a011" + (char) ('a' + i % 24) + "021" + (char) ('a' + i / 24 % 24) + "031" + (char) ('a' + i / 576);
      if (Checks.solid(x, text) == 2 && x.count(1) == 0 && x.sides() == 1 && x.edges() == 2 && x.row(0) == 6 && x.row(4) == 0
          && x.points() == 1 && x.row(1) == 0) {
        return text;
      }
    }
    return "";
  }

  private static void edgesPointsManifold() {
    GluedSolids x = Checks.solidOf("1000g020b");
    C.begin("10 edges");
    C.due("edges", x.edges() + " " + Checks.row(x), "3 1 2 4 1 0");
    C.due("of one TET", new GluedSolids().edges(), 6);
    GluedSolids r = Checks.solidOf("1000h020h");
    C.due("REVERSED", r.edges() + " " + Checks.row(r), "4 1 2 2 2 2");
    C.begin("11 points");
    C.due("points", x.points() + " " + Checks.row(x), "2 2 2");
    C.due("ROUND and yet no manifold", r.points() + " " + Checks.row(r), "2 2 2");
    GluedSolids open = Checks.solidOf("2001a");
    C.due("free", open.points() + " " + Checks.row(open), "5 0 1");
    GluedSolids torus = Checks.solidOf(torusText());
    C.due("the least CHI", torus.points() + " " + Checks.row(torus), "1 0 0");
    C.begin("12 manifold");
    C.due("a manifold", x.manifold() + " " + Checks.row(x), "1 0 0 0");
    C.due("REVERSED", r.manifold() + " " + Checks.row(r), "0 0 2 0");
    C.due("free", open.manifold() + " " + Checks.row(open), "0 6 0 5");
    C.due("a POINT not ROUND", torus.manifold() + " " + Checks.row(torus), "0 0 0 1");
  }

  private static void sidesGroupEulerAlike() {
    C.begin("13 sides");
    GluedSolids x = Checks.solidOf(TWO_TWO);
    GluedSolids o = Checks.solidOf(ONE_SIDED);
    C.due("two sides", x.sides() + " " + Checks.row(x), "1 2");
    C.due("one side", o.sides() + " " + o.count(4), "0 0");
    GluedSolids chain = Checks.solidOf("3001a112a");
    C.due("a chain", chain.sides() == 1 && Integer.bitCount((int) chain.row(0)) >= 1 && chain.row(0) % 2 == 0, true);
    GluedSolids four = new GluedSolids();
    four.one(0);
    C.due("each to each", four.sides() + " " + (Long.bitCount(four.row(0)) >= 0), "1 true");
    C.begin("14 group");
    C.due("2, 2", x.group() + " " + Checks.row(x), "0 2 2");
    C.due("RANK 1", o.group() + " " + o.count(4), "1 0");
    C.due("5", Checks.solidOf(FIVE).group(), 0);
    GluedSolids five = Checks.solidOf(FIVE);
    five.group();
    C.due("5", Checks.row(five), "5");
    GluedSolids eight = Checks.solidOf("2000j021a031q101s");
    C.due("8", eight.group() + " " + Checks.row(eight), "0 8");
    GluedSolids torus = Checks.solidOf(torusText());
    C.due("RANK 1 of a knot's complement at least", torus.group() >= 1, true);
    C.due("once round a REVERSED EDGE", Checks.solidOf(REVERSED).group(), 0);
    C.due("FREE EDGES bind nothing", Checks.solidOf("2001a011d").group(), 1);
    // Found by chance; so chosen that numbers above 1 are left in a row, or do not go into one another at first.
    String[][] many = {
      {"1000h020j", "0 "}, {"3000g021a032a101l132r212w", "0 2"}, {"3000i021a032a102h112h132b", "0 6"}, {"3000j021a031q102a132q222j", "0 12"},
      {"4000j021a032a103a112h132s213f313j", "1 4"}, {"5021a032a101l133a203o214a224n303g404p", "2 6"}, {"4031a112a123a203c223r233i", "2 "},
      {"4011a021b032a123a203e212c313e", "1 2"}, {"3001a011c022a032q112n132c", "0 6"}, {"4001a011b022a033a122i133u213u233r", "1 2"},
      {"3001a011c022a032t112k132r", "1 6"}, {"4010d031a102a111d213a223b233b", "1 2 2"}, {"5021a032a101t113a204a214o224g303t324n", "3 2 2"},
      {"8011a021b031e102a213a224a235a305r325w336a407a416m517c617a627p", "7 2"},
    };
    for (String[] one : many) {
      GluedSolids y = Checks.solidOf(one[0]);
      C.due("group of " + one[0], y.group() + " " + Checks.row(y), one[1]);
      PlainModel m = new PlainModel();
      m.text = one[0];
      m.solid();
      C.due("of the plain model's " + one[0], m.group() + m.told.toString(), one[1].replaceFirst(" ", "[").replace(" ", ", ") + "]");
    }
    five.two(0, 0);
    five.one(0);
    five.two(0, 0);
    five.group();
    C.due("moves keep it", Checks.row(five), "5");
    C.begin("15 euler");
    C.due("closed", x.euler(), 100);
    C.due("REVERSED", Checks.solidOf("1000h020h").euler(), 99);
    C.due("one TET", new GluedSolids().euler(), 101);
    C.due("a torus around a POINT", torus.euler(), 101);
    five.shows();
    int numbers = five.count(4);
    five.euler();
    five.alike();
    C.due("the ROW stays", five.count(4), numbers);
    C.begin("16 alike");
    C.due("one TET", new GluedSolids().alike(), 24);
    C.due("a sphere", Checks.solidOf(BALLS).alike(), 48);
    C.due("2, 2", x.alike(), 24);
    C.due("a pair", Checks.solidOf("2001a").alike(), 12);
    C.due("a chain", Checks.solidOf("3001a012a").alike() > 0, true);
  }

  private static void twoAndThree() {
    C.begin("17 two");
    GluedSolids x = Checks.solidOf("2001a");
    x.keep(0);
    C.due("free", x.two(0, 0), -2);
    C.due("none such", x.two(0, 4) + " " + x.two(2, 0) + " " + x.two(-1, 0) + " " + x.two(0, -1), "-1 -1 -1 -1");
    C.due("at the same TET", Checks.solidOf(FIVE).two(0, 0), -2);
    C.due("two into three", x.two(0, 3), 3);
    C.due("what came", x.edges() + " " + Checks.row(x) + " " + x.count(1), "10 1 3 3 1 0 6");
    C.begin("18 three");
    int[] at = edgeOfThree(x);
    C.due("like CORNERS", x.three(0, 1, 1), -1);
    C.due("none such", x.three(3, 0, 1) + " " + x.three(0, -1, 1) + " " + x.three(0, 0, 4) + " " + x.three(-1, 0, 1), "-1 -1 -1 -1");
    C.due("FREE", new GluedSolids().three(0, 0, 1), -2);
    C.due("three times at one TET", Checks.solidOf(FIVE).three(0, 0, 1), -2);
    C.due("changed about", x.three(at[0], at[2], at[1]), 2);
    C.due("what it was", x.same(0), 1);
    C.due("of two TETS", Checks.solidOf(BALLS).three(0, 0, 1), -2);
    GluedSolids turned = Checks.solidOf("3021a032a132h");
    C.due("REVERSED, of three TETS", turned.degree(0, 0, 1) + " " + Checks.row(turned) + " " + turned.three(0, 0, 1), "3 0 1 -2");
    GluedSolids full = Checks.solidOf("8001a112a223a304a415a526a637a");
    C.due("there would be 9", full.two(0, gluedFace(full, 0)), -3);
    C.due("free, and there are 8", full.two(0, 0), -2);
    GluedSolids inner = Checks.solidOf(BALLS);
    inner.keep(1);
    C.due("outer FACES glued to one another", inner.two(1, 2) + " " + inner.manifold() + " " + inner.points(), "3 1 4");
    at = edgeOfThree(inner);
    C.due("back", inner.three(at[0], at[1], at[2]) + " " + inner.same(1), "2 1");
  }

  private static int gluedFace(GluedSolids x, int tet) {
    for (int f = 0; f < 4; f++) {
      if (x.glued(tet, f, 0) >= 0 && x.glued(tet, f, 0) != tet) {
        return f;
      }
    }
    return 0;
  }

  private static int[] edgeOfThree(GluedSolids x) {
    for (int t = 0; t < x.count(0); t++) {
      for (int u = 0; u < 4; u++) {
        for (int v = u + 1; v < 4; v++) {
          if (x.degree(t, u, v) == 3 && x.row(0) == 0) {
            return new int[] {t, u, v};
          }
        }
      }
    }
    return new int[3];
  }

  private static void oneAndFour() {
    C.begin("19 one");
    GluedSolids x = new GluedSolids();
    C.due("none such", x.one(1) + " " + x.one(-1), "-1 -1");
    C.due("one into four", x.one(0) + " " + x.count(1), "4 4");
    C.due("each to each", x.edges() + " " + Checks.row(x), "10 2 6 3 4 0");
    C.due("again", x.one(3), 7);
    C.due("there would be 10", x.one(0), -3);
    C.due("none such, and there are 7", x.one(7), -1);
    C.due("five into eight", Checks.solidOf("5001a112a223a304a").one(4), 8);
    C.due("six", Checks.solidOf("6001a112a223a304a415a").one(0), -3);
    C.begin("20 four");
    x.undo();
    int done = 0;
    int refused = 0;
    for (int v = 0; v < 4; v++) {
      int answer = x.four(2, v);
      done += answer == 1 ? 1 : 0;
      refused += answer == -2 ? 1 : 0;
      if (answer == 1) {
        x.undo();
      }
    }
    C.due("at the one POINT", done + " " + refused, "1 3");
    C.due("none such", x.four(0, 4) + " " + x.four(4, 0) + " " + x.four(0, -1) + " " + x.four(-1, 0), "-1 -1 -1 -1");
    C.due("of SIZE 4 at one TET", Checks.solidOf(FIVE).four(0, 0), -2);
    GluedSolids five = Checks.solidOf(FIVE);
    five.keep(0);
    five.one(0);
    C.due("outer FACES glued to one another", five.simpler() + " " + five.same(0), "1 1");
  }

  /**
   * Four TETS, their CORNERS 3 at one POINT, the twelve FACES there glued in pairs at random, those outside free: a 4-1
   * can be just if each two TETS meet once and the POINT is ROUND, which is so then of no other POINT.
   */
  private static void fourAroundOnePoint() {
    C.begin("20 four");
    Random random = new Random(11);
    int[] seen = new int[4];
    GluedSolids x = new GluedSolids();
    for (int i = 0; i < 20000; i++) {
      boolean wantsEachOnce = i % 2 == 0;
      int[][] met = new int[4][4];
      String text = gluedAround(random, wantsEachOnce, met);
      boolean isEachOnce = Arrays.deepToString(met).equals("[[0, 1, 1, 1], [1, 0, 1, 1], [1, 1, 0, 1], [1, 1, 1, 0]]");
      if (Checks.solid(x, text) != 4) {
        continue;
      }
      x.points();
      boolean isRound = x.row(0) == 1;
      x.comes();
      C.due("places of 4-1 in " + text, x.row(3), isEachOnce && isRound ? 4 : 0);
      if (x.row(3) == 0) {
        C.due("it can't be in " + text, x.four(0, 0) + " " + x.four(1, 1) + " " + x.four(2, 2) + " " + x.four(3, 3), "-2 -2 -2 -2");
      }
      seen[(isEachOnce ? 2 : 0) + (isRound ? 1 : 0)]++;
    }
    C.due("all kinds were met", Math.min(Math.min(seen[0], seen[1]), Math.min(seen[2], seen[3])) > 0, true);
  }

  /** The text, and how often each two TETS meet. */
  private static String gluedAround(Random random, boolean eachOnce, int[][] met) {
    List<int[]> sides = new ArrayList<>();
    for (int k = 0; k < 12; k++) {
      sides.add(new int[] {k / 3, k % 3});
    }
    StringBuilder text = new StringBuilder("4");
    Collections.shuffle(sides, random);
    while (!sides.isEmpty()) {
      int[] one = sides.remove(0);
      int other = 0;
      while (eachOnce && other < sides.size() - 1 && (sides.get(other)[0] == one[0] || met[one[0]][sides.get(other)[0]] > 0)) {
        other++;
      }
      int[] two = sides.remove(other);
      met[one[0]][two[0]]++;
      met[two[0]][one[0]]++;
      int[] p;
      do {
        p = PlainModel.PERMS.get(random.nextInt(24));
      } while (p[3] != 3 || p[one[1]] != two[1]);
      text.append(one[0]).append(one[1]).append(two[0]).append((char) ('a' + PlainModel.letter(p)));
    }
    return text.toString();
  }

  private static void trail() {
    C.begin("21 trail");
    GluedSolids x = Checks.solidOf(BALLS);
    x.keep(0);
    C.due("two moves", Checks.trail(x, "f00t0") + " " + Checks.row(x) + " " + x.count(2), "2 0 6 2");
    C.due("undone as one", x.undo() + " " + x.same(0), "1 1");
    C.due("till one can't be", Checks.trail(x, "f00t9f00") + " " + Checks.row(x), "1 1 3");
    C.due("done", x.count(0) + " " + x.count(2), "3 2");
    C.due("none done", Checks.trail(x, "p09t0") + " " + Checks.row(x) + " " + x.count(2), "0 1 3 2");
    C.due("an empty one", Checks.trail(x, "") + " " + Checks.row(x) + " " + x.count(2), "0 0 3 2");
    int[] at = edgeOfThree(x);
    C.due("3-2", Checks.trail(x, "e" + at[0] + at[1] + at[2]) + " " + x.same(0), "1 1");
    x.edges();
    String[] bad = {"x", "f", "f0", "fa0", "e00", "e0000", "t", "tt", "p0", "p0p", "t0 t0", "F00", "f00,"};
    int[] answers = {-1, -2, -3, -2, -4, -5, -2, -2, -3, -3, -3, -1, -4};
    for (int i = 0; i < bad.length; i++) {
      C.due("trail of " + bad[i], Checks.trail(x, bad[i]) + " " + Checks.row(x) + " " + x.count(5) + " " + x.same(0), answers[i] + " 2 6 2 6 0 0 1");
      x.edges();
      C.due("tries of " + bad[i], Checks.tries(x, bad[i]) + " " + Checks.row(x) + " " + x.count(5), answers[i] + " 2 6 2 6 0 0");
    }
    C.due("a fault far behind", Checks.trail(x, "t0t0t0t0z") + " " + x.count(0), "-9 2");
    StringBuilder most = new StringBuilder();
    for (int i = 0; i < 40; i++) {
      most.append("t9");
    }
    C.due("eighty signs", Checks.trail(x, most.toString()) + " " + Checks.row(x), "0 1 2");
    C.due("eighty signs, one too early", Checks.trail(x, most.substring(0, 76) + "t9e0"), -81);
  }

  private static void tries() {
    C.begin("22 tries");
    GluedSolids x = Checks.solidOf(BALLS);
    C.due("nothing is done", Checks.tries(x, "f00t0") + " " + Checks.row(x) + " " + x.count(0) + " " + x.count(2), "6 2 0 2 1");
    C.due("an empty one", Checks.tries(x, "") + " " + Checks.row(x), "2 0 1");
    C.due("refused at once", Checks.tries(x, "p00") + " " + Checks.row(x), "2 0 1");
    x.two(0, 0);
    int[] at = edgeOfThree(x);
    x.undo();
    C.due("there and back", Checks.tries(x, "f00e" + at[0] + at[1] + at[2]) + " " + Checks.row(x), "2 2 1");
    C.due("THE TEXT is empty", x.count(5), 0);
  }

  private static void comesAndLeads() {
    C.begin("23 comes");
    GluedSolids x = Checks.solidOf(BALLS);
    C.due("comes", x.comes() + " " + Checks.row(x), "2 8 0 2 0");
    GluedSolids full = Checks.solidOf("8001a112a223a304a415a526a637a");
    C.due("none", full.comes() + " " + Checks.row(full), "0 0 0 0 0");
    C.begin("24 leads");
    C.due("nothing is kept", x.leads(0) + " " + x.leads(1), "-2 -2");
    C.due("another i", x.leads(2) + " " + x.leads(-1), "-1 -1");
    x.keep(0);
    C.due("not to itself", x.leads(0), -2);
    x.one(0);
    x.keep(1);
    C.due("4-1, the first", x.leads(0) + " " + Checks.row(x), "3 0 0");
    x.undo();
    C.due("1-4, the first", x.leads(1) + " " + Checks.row(x), "2 0");
    x.two(1, 3);
    x.keep(1);
    int[] at = edgeOfThree(x);
    C.due("3-2, the first", x.leads(0) + " " + Checks.row(x), "1 " + at[0] + " " + at[1] + " " + at[2]);
    x.undo();
    C.due("2-3, the first", x.leads(1) + " " + Checks.row(x), "0 0 0");
    Checks.solid(x, FIVE);
    x.shows();
    C.due("none", x.leads(0) + " " + x.count(4), "-2 9");
  }

  private static void simpler() {
    C.begin("25 simpler");
    GluedSolids x = new GluedSolids();
    C.due("nothing to do", x.simpler() + " " + Checks.row(x) + " " + x.count(2), "1 0 0");
    x.one(0);
    x.one(1);
    C.due("twice", x.simpler() + " " + Checks.row(x) + " " + x.count(2), "1 2 3");
    C.due("undone as one", x.undo() + " " + x.count(0), "2 7");
    GluedSolids y = Checks.solidOf("2001a");
    y.two(0, 3);
    C.due("3-2", y.simpler() + " " + Checks.row(y), "2 1");
    // 4-1 ahead of 3-2: both can be at the five TETS around, the one comes to two TETS at once.
    GluedSolids z = Checks.solidOf(BALLS);
    z.one(0);
    C.due("4-1 first", z.simpler() + " " + Checks.row(z), "2 1");
  }

  private static void way() {
    C.begin("26 way");
    GluedSolids x = Checks.solidOf(BALLS);
    int[][] none = {{-1, 1, 8}, {2, 1, 8}, {0, 0, 8}, {0, 31, 8}, {0, 1, 0}, {0, 1, 9}};
    x.edges();
    for (int[] a : none) {
      C.due("others", x.way(a[0], a[1], a[2]), -1);
    }
    C.due("nothing is kept", x.way(0, 1, 1), -3);
    x.keep(0);
    C.due("the ROW stays", Checks.row(x), "2 6 2 6 0");
    C.due("none to go, though it has more", x.way(0, 1, 1) + " " + Checks.row(x), "0 1");
    x.two(0, 0);
    x.keep(1);
    C.due("back", x.way(0, 30, 8) >= 1, true);
    C.due("one move", x.way(0, 30, 3), 1);
    x.again(0);
    C.due("the first that is found", x.way(1, 30, 8) + " " + Checks.row(x), "1 2");
    C.due("with room for two", x.way(1, 2, 8) + " " + Checks.row(x), "1 2");
    C.due("with room for one", x.way(1, 1, 8), -2);
    C.due("it has too many", x.way(1, 30, 2) + " " + Checks.row(x), "-2 2");
    x.one(0);
    x.keep(1);
    x.again(0);
    C.due("1-4 behind 2-3", x.way(1, 30, 8) + " " + Checks.row(x), "1 3");
    C.due("by way of 2-3 alone it is farther", x.way(1, 30, 5), 1);
    C.due("the other", x.way(1, 3, 8) + " " + x.way(1, 2, 8), "1 -2");
    Checks.solid(x, FIVE);
    C.due("another solid", x.way(0, 30, 8), -2);
  }

  private static void drawn() {
    C.begin("27 drawn");
    GluedSolids x = Checks.solidOf(BALLS);
    C.due("another n", x.drawn(0, 0) + " " + x.drawn(0, 13) + " " + x.drawn(1, -1), "-1 -1 -1");
    for (int seed = -300; seed < 300; seed++) {
      int n = 1 + Math.floorMod(seed, 12);
      String want = drawByHand(seed * 7654321, n);
      C.due("seed " + seed * 7654321, x.drawn(seed * 7654321, n) + " " + Checks.row(x), want);
    }
    C.due("nothing is done", x.count(2) + " " + Checks.shown(x), "1 " + BALLS);
  }

  private static long drawState;

  private static int draw(int n) {
    drawState = (drawState * 1103515245L + 12345L) % 4294967296L;
    return (int) (drawState / 65536 % n);
  }

  private static String drawByHand(int seed, int n) {
    drawState = seed & 0xffffffffL;
    GluedSolids y = Checks.solidOf(BALLS);
    int done = 0;
    for (int i = 0; i < n; i++) {
      int kind = draw(4);
      int tet = draw(8);
      int answer;
      if (kind == 0) {
        answer = y.two(tet, draw(4));
      } else if (kind == 1) {
        int u = draw(4);
        answer = y.three(tet, u, draw(4));
      } else if (kind == 2) {
        answer = y.one(tet);
      } else {
        answer = y.four(tet, draw(4));
      }
      done += answer > 0 ? 1 : 0;
    }
    return y.count(0) + " " + done + " " + y.manifold();
  }

  private static void undo() {
    C.begin("28 undo");
    GluedSolids x = new GluedSolids();
    C.due("none", x.undo(), -1);
    for (int i = 1; i <= 12; i++) {
      C.due("solid", Checks.solid(x, i % 2 == 0 ? "1" : BALLS) + " " + x.count(2), (i % 2 == 0 ? 1 : 2) + " " + Math.min(i, 8));
    }
    for (int i = 7; i >= 0; i--) {
      C.due("undo", x.undo() + " " + x.count(0), i + " " + (i % 2 == 0 ? 1 : 2));
    }
    C.due("no more", x.undo() + " " + x.count(0), "-1 1");
    x.one(0);
    x.two(0, gluedFace(x, 0));
    x.one(9);
    x.two(0, 9);
    C.due("such as were done", x.count(2), 2);
    x.keep(0);
    C.due("refused", x.again(1) + " " + x.count(2), "false 2");
    C.due("forgotten", x.again(0) + " " + x.count(2) + " " + x.undo(), "true 0 -1");
    x.again(0);
    int[] at = edgeOfThree(x);
    C.due("three", x.three(at[0], at[1], at[2]) + " " + x.undo() + " " + x.same(0), "4 0 1");
    x.edges();
    x.undo();
    C.due("the ROW stays", x.count(4), 5);
  }

  private static void heard() {
    C.begin("29 heard");
    GluedSolids x = Checks.solidOf("1000g020b");
    int[][] bad = {{0, -1}, {0, 49}, {1, 2}, {1, -1}, {2, 2}, {3, 8}, {3, -1}, {4, 2}, {5, 0}, {-1, 0}};
    for (int[] a : bad) {
      C.due("refused", x.heard(a[0], a[1]) + " " + x.count(3), "-1 0");
    }
    C.due("all", x.fits() + " " + Checks.row(x), "3 0 0 1");
    C.due("what 0", x.heard(0, 2) + " " + x.fits() + " " + Checks.row(x), "1 1 0 0 2");
    C.due("what 0, more", x.heard(0, 48) + " " + x.fits() + " " + x.count(4), "2 0 0");
    C.begin("30 forget");
    C.due("forget", x.forget() + " " + x.forget() + " " + x.count(3), "2 0 0");
    C.begin("31 fits");
    C.due("what 4, one POINT", x.heard(4, 1) + " " + x.fits(), "1 2");
    x.forget();
    C.due("what 4, two", x.heard(4, 0) + " " + x.fits(), "1 1");
    x.forget();
    C.due("what 1, not FREE", x.heard(1, 0) + " " + x.fits(), "1 3");
    C.due("what 1, FREE", x.heard(1, 1) + " " + x.fits() + " " + x.count(4), "2 0 0");
    x.forget();
    for (int i = 1; i <= 8; i++) {
      C.due("eight", x.heard(0, 0), i);
    }
    C.due("a ninth", x.heard(0, 0) + " " + x.count(3), "-1 8");
    GluedSolids y = Checks.solidOf(REVERSED);
    C.due("what 2", y.heard(2, 1) + " " + y.fits() + " " + Checks.row(y), "1 1 0 0 1");
    y.forget();
    C.due("what 2, not", y.heard(2, 0) + " " + y.fits() + " " + Checks.row(y), "1 3 0 0 2");
    GluedSolids z = Checks.solidOf("2001a");
    C.due("what 3", z.heard(3, 1) + " " + z.fits(), "1 6");
    C.due("what 3, both", z.heard(3, 0) + " " + z.fits() + " " + Checks.row(z), "2 3 0 0 1");
    C.due("a TET that there is not", z.heard(3, 7) + " " + z.fits() + " " + z.count(4), "3 0 0");
    z.forget();
    z.heard(3, 1);
    z.heard(0, 1);
    Checks.solid(z, BALLS);
    C.due("asked of what it is now", z.fits() + " " + z.count(3), "6 2");
  }

  private static void kept() {
    C.begin("32 keep");
    GluedSolids x = Checks.solidOf(BALLS);
    C.due("keep", x.keep(0) + " " + x.keep(1) + " " + x.keep(2) + " " + x.keep(-1), "true true false false");
    C.begin("33 again");
    x.one(0);
    x.keep(1);
    C.due("refused", x.again(2) + " " + x.again(-1), "false false");
    C.due("again", x.again(0) + " " + x.count(0) + " " + x.again(1) + " " + x.count(0), "true 2 true 5");
    C.due("nothing kept", new GluedSolids().again(0), false);
    C.begin("34 same");
    C.due("same", x.same(1) + " " + Checks.row(x), "1 5");
    C.due("not the same", x.same(0) + " " + Checks.row(x), "0 2");
    C.due("another i", x.same(2) + " " + x.same(-1), "-1 -1");
    Checks.solid(x, "2001x011x021x031x");
    C.due("numbered otherwise", x.same(0) + " " + Checks.row(x), "1 2");
    Checks.solid(x, TWO_TWO);
    C.due("as many TETS", x.same(0) + " " + Checks.row(x), "0 2");
    GluedSolids y = new GluedSolids();
    y.points();
    C.due("nothing is kept", y.same(0) + " " + Checks.row(y), "-2 0 1");
  }

  private static void countAndRow() {
    C.begin("35 count");
    GluedSolids x = Checks.solidOf(BALLS);
    x.two(0, 0);
    x.heard(0, 1);
    x.sign(0);
    x.edges();
    C.due("counts", x.count(0) + " " + x.count(1) + " " + x.count(2) + " " + x.count(3) + " " + x.count(4) + " " + x.count(5), "3 0 2 1 5 4");
    C.due("another what", x.count(-1) + " " + x.count(6) + " " + x.count(Integer.MIN_VALUE), "-1 -1 -1");
    C.begin("36 row");
    C.due("row", Checks.rowAt(x, 0), x.row(0));
    C.due("none such", Checks.rowAt(x, 5) + Checks.rowAt(x, -1) + Checks.rowAt(x, Integer.MAX_VALUE) + Checks.rowAt(x, Integer.MIN_VALUE), "nonenonenonenone");
    x.group();
    C.due("an empty ROW", Checks.rowAt(x, 0), "none");
  }
}
