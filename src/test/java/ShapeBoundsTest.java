import java.util.Arrays;
import java.util.List;

/** Promises 8 to 16: each sentence that names a bound, an empty or a full thing or a refusal, at it and next to it. */
public final class ShapeBoundsTest {
  private static final Checks C = new Checks();
  private static final int LEAST = Integer.MIN_VALUE;
  private static final int MOST = Integer.MAX_VALUE;
  private static final int[] TETS = {LEAST, -8, -1, 8, 16, 64, 1 << 27, 1 << 28, 1 << 30, MOST};
  private static final int[] CORNERS = {LEAST, -4, -1, 4, 5, 8, 1 << 30, MOST};
  private static final List<Left.Calls> ANY = Arrays.asList(Left::fresh, Left::some, Left::full);

  /** Eight TETS, an EDGE of DEGREE 47 and one of 1; as THE SOLID shows it. */
  private static final String FORTY_SEVEN = "8000g021a032a103a114a133q205a216a226i325d336g407a425v437d517q627f";
  /** Eight TETS, one EDGE, of DEGREE 48 and REVERSED. */
  private static final String ONE_REVERSED = "8001a011i022a033a114a135a205i216a236j306u314r325w407a427j527t627s";

  public static void main(String[] args) {
    degree();
    degreeAtItsBounds();
    point();
    roundOrNot();
    edges();
    points();
    manifold();
    sides();
    group();
    euler();
    alike();
    C.end("bounds of shapes");
  }

  private static void degree() {
    C.begin("8 degree");
    for (Left.Calls made : ANY) {
      int tets = Left.made(made).count(0);
      for (int tet : TETS) {
        Left.all(C, "TET " + tet, made, x -> x.degree(tet, 0, 1), -1);
      }
      if (tets < 8) {
        Left.all(C, "TET " + tets, made, x -> x.degree(tets, 0, 1), -1);
      }
      for (int v : CORNERS) {
        Left.all(C, "CORNER " + v, made, x -> x.degree(0, 0, v), -1);
        Left.all(C, "first CORNER " + v, made, x -> x.degree(tets - 1, v, 3), -1);
        Left.all(C, "both CORNERS " + v, made, x -> x.degree(0, v, v), -1);
      }
      for (int v = 0; v < 4; v++) {
        int like = v;
        Left.all(C, "like CORNERS " + v, made, x -> x.degree(0, like, like), -1);
        Left.all(C, "like CORNERS " + v + " of the last TET", made, x -> x.degree(tets - 1, like, like), -1);
      }
    }
    for (int u = 0; u < 4; u++) {
      for (int v = 0; v < 4; v++) {
        if (u != v) {
          int one = u;
          int other = v;
          Left.allButRow(C, "degree(0, " + u + ", " + v + ")", Left::fresh, x -> x.degree(0, one, other), 1, "1 0");
          Left.allButRow(C, "degree(7, " + u + ", " + v + ")", Left::full, x -> x.degree(7, one, other), 48, "0 0");
        }
      }
    }
  }

  private static void degreeAtItsBounds() {
    C.begin("8 degree, FREE and REVERSED");
    GluedSolids all = Checks.solidOf(ONE_REVERSED);
    C.due("48, REVERSED", all.degree(7, 2, 3) + " " + Checks.row(all), "48 0 1");
    GluedSolids x = Checks.solidOf(FORTY_SEVEN);
    int ones = 0;
    for (int tet = 0; tet < 8; tet++) {
      for (int u = 0; u < 4; u++) {
        for (int v = u + 1; v < 4; v++) {
          int degree = x.degree(tet, u, v);
          C.due("47 or 1", degree == 47 || degree == 1, true);
          C.due("the other way", x.degree(tet, v, u), degree);
          ones += degree == 1 ? 1 : 0;
        }
      }
    }
    C.due("one of 1", ones, 1);
    // One pair, GLUED 2 to 3 by 0132: EDGE 0 1 lies between them, and FACES 0 and 1, which are free, have it not.
    GluedSolids y = Checks.solidOf("1020b");
    String told = "";
    for (int u = 0; u < 4; u++) {
      for (int v = u + 1; v < 4; v++) {
        told += y.degree(0, u, v) + Checks.row(y).replace(" ", "") + " ";
      }
    }
    C.due("not FREE, though two FACES are", told, "100 210 210 210 210 110 ");
    GluedSolids t = Checks.solidOf("2031a");
    C.due("all FREE", t.degree(0, 1, 2) + " " + Checks.row(t) + ", " + t.degree(1, 0, 3) + " " + Checks.row(t), "2 1 0, 1 1 0");
  }

  private static void point() {
    C.begin("9 point");
    for (Left.Calls made : ANY) {
      int tets = Left.made(made).count(0);
      for (int tet : TETS) {
        Left.all(C, "TET " + tet, made, x -> x.point(tet, 0), -1);
      }
      Left.all(C, "TET " + tets, made, x -> x.point(tets, 0), -1);
      for (int v : CORNERS) {
        Left.all(C, "CORNER " + v, made, x -> x.point(0, v), -1);
        Left.all(C, "CORNER " + v + " of the last TET", made, x -> x.point(tets - 1, v), -1);
      }
    }
    for (int v = 0; v < 4; v++) {
      int corner = v;
      Left.allButRow(C, "point(0, " + v + ")", Left::fresh, x -> x.point(0, corner), 1, "3 1 0");
      // SIZE 32, 48 SIDES, the two ends of the one EDGE.
      Left.allButRow(C, "point(7, " + v + ")", Left::full, x -> x.point(7, corner), 32, "2 -14 0");
    }
    GluedSolids turned = Checks.solidOf(ONE_REVERSED);
    C.due("both ends are one", turned.point(0, 0) + " " + Checks.row(turned), "32 1 -15 0");
  }

  /** CHI 2 and a FACE that is free is not ROUND; CHI 1 or 0 without one is not either. */
  private static void roundOrNot() {
    C.begin("9 point, ROUND");
    GluedSolids balls = Checks.solidOf(Left.BALLS);
    C.due("CHI 2, none free", balls.point(0, 0) + " " + Checks.row(balls), "2 3 2 1");
    GluedSolids one = Checks.solidOf("2001a011a021a");
    int round = 0;
    int disks = 0;
    for (int v = 0; v < 4; v++) {
      one.point(0, v);
      round += Checks.row(one).equals("3 2 1") ? 1 : 0;
      disks += Checks.row(one).equals("3 1 0") ? 1 : 0;
    }
    C.due("one POINT has no free FACE", round + " " + disks, "1 3");
    int[] seen = new int[3];
    for (int p = 0; p < 24 * 24 * 24; p++) {
      String text = "2001a011" + (char) ('a' + p % 24) + "021" + (char) ('a' + p / 24 % 24) + "031" + (char) ('a' + p / 576);
      GluedSolids x = new GluedSolids();
      if (p % 7 != 0 || Checks.solid(x, text) < 0) {
        continue;
      }
      boolean isOpen = x.count(1) > 0;
      for (int v = 0; v < 4 && !isOpen; v++) {
        x.point(0, v);
        long chi = x.row(1);
        C.due("ROUND by CHI " + chi + " of " + text, x.row(2), chi == 2 ? 1 : 0);
        seen[chi == 2 ? 2 : chi == 1 ? 1 : 0]++;
      }
    }
    C.due("CHI 2, 1 and less were met", seen[0] > 0 && seen[1] > 0 && seen[2] > 0, true);
    PlainModel m = new PlainModel();
    int open = 0;
    for (String text : new String[] {"1020b", "1020h", "2001a", "3001a112a", Left.LINE, "2001a011a", "2001a011i"}) {
      GluedSolids x = Checks.solidOf(text);
      m.text = text;
      m.solid();
      for (int t = 0; t < x.count(0); t++) {
        for (int v = 0; v < 4; v++) {
          int size = x.point(t, v);
          C.due("point(" + t + ", " + v + ") of " + text, size + " " + Checks.row(x), m.point(t, v) + " " + m.row(0) + " " + m.row(1) + " " + m.row(2));
          open += x.row(2) == 0 ? 1 : 0;
        }
      }
    }
    C.due("not ROUND, free FACES", open > 0, true);
  }

  private static void edges() {
    C.begin("10 edges");
    Left.allButRow(C, "edges", Left::fresh, GluedSolids::edges, 6, "1 6 1 6 0");
    Left.allButRow(C, "edges", Left::full, GluedSolids::edges, 1, "48 1 48 1 0");
    Left.allButRow(C, "edges", x -> Checks.solid(x, FORTY_SEVEN), GluedSolids::edges, 2, "1 1 47 1 0");
    Left.allButRow(C, "edges", x -> Checks.solid(x, ONE_REVERSED), GluedSolids::edges, 1, "48 1 48 1 1");
    Left.allButRow(C, "edges", x -> Checks.solid(x, Left.BALLS), GluedSolids::edges, 6, "2 6 2 6 0");
    GluedSolids x = new GluedSolids();
    x.one(0);
    C.due("one into four", x.edges() + " " + Checks.row(x), "10 2 6 3 4 0");
    GluedSolids y = Checks.solidOf(Left.FIVE);
    C.due("two of 3", y.edges() + " " + Checks.row(y), "2 3 2 3 2 0");
  }

  private static void points() {
    C.begin("11 points");
    Left.allButRow(C, "points", Left::fresh, GluedSolids::points, 4, "0 1");
    Left.allButRow(C, "points", Left::full, GluedSolids::points, 1, "0 -14");
    Left.allButRow(C, "points", x -> Checks.solid(x, ONE_REVERSED), GluedSolids::points, 1, "0 -15");
    Left.allButRow(C, "points", x -> Checks.solid(x, Left.BALLS), GluedSolids::points, 4, "4 2");
    Left.allButRow(C, "points", x -> Checks.solid(x, Left.FIVE), GluedSolids::points, 1, "1 2");
    Left.allButRow(C, "points", x -> Checks.solid(x, "2001a011a021a"), GluedSolids::points, 4, "1 1");
    Left.allButRow(C, "points", x -> Checks.solid(x, Left.LINE), GluedSolids::points, 11, "0 1");
  }

  private static void manifold() {
    C.begin("12 manifold");
    Left.allButRow(C, "manifold", Left::fresh, GluedSolids::manifold, 0, "4 0 4");
    Left.allButRow(C, "manifold", Left::full, GluedSolids::manifold, 0, "0 0 1");
    Left.allButRow(C, "manifold", x -> Checks.solid(x, ONE_REVERSED), GluedSolids::manifold, 0, "0 1 1");
    Left.allButRow(C, "manifold", x -> Checks.solid(x, Left.BALLS), GluedSolids::manifold, 1, "0 0 0");
    Left.allButRow(C, "manifold", x -> Checks.solid(x, "1000h020h"), GluedSolids::manifold, 0, "0 2 0");
    Left.allButRow(C, "manifold", x -> Checks.solid(x, "2001a011a021a"), GluedSolids::manifold, 0, "2 0 3");
    Left.allButRow(C, "manifold", x -> Checks.solid(x, Left.LINE), GluedSolids::manifold, 0, "18 0 11");
  }

  private static void sides() {
    C.begin("13 sides");
    Left.allButRow(C, "sides", Left::fresh, GluedSolids::sides, 1, "0");
    Left.allButRow(C, "sides", x -> Checks.solid(x, "1000h"), GluedSolids::sides, 0, "");
    Left.allButRow(C, "sides", x -> Checks.solid(x, "1000g"), GluedSolids::sides, 1, "0");
    Left.allButRow(C, "sides", x -> Checks.solid(x, "2001a"), GluedSolids::sides, 1, "2");
    Left.allButRow(C, "sides", x -> Checks.solid(x, "2001b"), GluedSolids::sides, 1, "2");
    Left.allButRow(C, "sides", x -> Checks.solid(x, "2001a011b"), GluedSolids::sides, 0, "");
    // Five TETS, each GLUED to each: TET 1 is GLUED to TET 0 by one FACE alone, the first of all.
    Left.allButRow(C, "sides", x -> Checks.solid(x, Left.BALLS) + x.one(0), GluedSolids::sides, 1, "30");
    Left.allButRow(C, "sides", x -> manyToldThenOneSided(x), GluedSolids::sides, 0, "");
    int last = 0;
    int both = 0;
    for (String text : new String[] {Left.LINE, "8001a012a023a034a045a056a067a", "8001a012b113a214a325b436a517a", Left.ONE_EDGE, ONE_REVERSED, FORTY_SEVEN, "8031a102a113a124a405a416a437a"}) {
      GluedSolids x = new GluedSolids();
      if (Checks.solid(x, text) == 8) {
        int answer = x.sides();
        last |= answer == 1 ? (int) x.row(0) : 0;
        both |= 1 << answer;
        C.due("sides of " + text, answer + " " + Checks.row(x), byTrying(x));
      }
    }
    C.due("TET 7 was told 1, never TET 0", last >> 7 + (last & 1), 1);
    C.due("both answers", both, 3);
  }

  private static Object manyToldThenOneSided(GluedSolids x) {
    Checks.solid(x, "2001a011a021j031s");
    return x.edges();
  }

  private static String byTrying(GluedSolids x) {
    for (int ones = 0; ones < 1 << x.count(0); ones += 2) {
      boolean good = true;
      for (int face = 0; face < 4 * x.count(0); face++) {
        int tet = x.glued(face / 4, face % 4, 0);
        if (tet >= 0) {
          boolean isEven = PlainModel.isEven(PlainModel.PERMS.get(x.glued(face / 4, face % 4, 1)));
          good &= isEven == ((ones >> tet & 1) != (ones >> face / 4 & 1));
        }
      }
      if (good) {
        return "1 " + ones;
      }
    }
    return "0 ";
  }

  private static void group() {
    C.begin("14 group");
    Left.allButRow(C, "no FACE GLUED", Left::fresh, GluedSolids::group, 0, "");
    Left.allButRow(C, "a tree alone", x -> Checks.solid(x, Left.LINE), GluedSolids::group, 0, "");
    Left.allButRow(C, "one EDGE that is not FREE", x -> Checks.solid(x, "1000g"), GluedSolids::group, 0, "");
    Left.allButRow(C, "all EDGES FREE", x -> Checks.solid(x, "1000i"), GluedSolids::group, 1, "");
    Left.allButRow(C, "TORSIONS", x -> Checks.solid(x, Left.FIVE), GluedSolids::group, 0, "5");
    Left.allButRow(C, "2 is above 1", x -> Checks.solid(x, "2000g021a031i101i"), GluedSolids::group, 0, "2");
    Left.allButRow(C, "no ROW where each TORSION would be 1", x -> Checks.solid(x, Left.BALLS), GluedSolids::group, 0, "");
    Left.allButRow(C, "two TORSIONS, rising", x -> Checks.solid(x, "5001a011b022a032i122q133a214a304v314x324w"), GluedSolids::group, 0, "2 6");
    Left.allButRow(C, "two that are alike", x -> Checks.solid(x, "4001a011c022a033a113s132r213u233e"), GluedSolids::group, 0, "3 3");
    String many = "8011a022a033a102l124a135a206a235v307a316v327c405m416i435f727n";
    // The pair of the last TET alone is bound by its last EDGE alone.
    Left.allButRow(C, "the last EDGE of the last TET", x -> Checks.solid(x, "5031a112a123a334a404g"), GluedSolids::group, 0, "");
    // Found by trying: wrong if a sum is not taken from another one that is less than twice as great.
    for (String text : new String[] {"2000h021a031c101h", "3000g021a031a102a112q212x", "3001a011a022a032a122q132w"}) {
      Left.allButRow(C, "remainders that leave nothing, " + text, x -> Checks.solid(x, text), GluedSolids::group, 0, "");
    }
    Left.allButRow(C, "RANK 1 and none", x -> Checks.solid(x, "3000h021a031c102a112a222n"), GluedSolids::group, 1, "");
    Left.allButRow(C, "a sum that begins with 0", x -> Checks.solid(x, "1000h020d"), GluedSolids::group, 0, "3");
    Left.allButRow(C, "TORSION 4", x -> Checks.solid(x, "1000j020j"), GluedSolids::group, 0, "4");
    groupAgainAndAgain();
    torsionsGoIntoEachOther();
    Left.allButRow(C, "RANK 8", x -> Checks.solid(x, many), GluedSolids::group, 8, "");
    for (String text : new String[] {Left.ONE_EDGE, ONE_REVERSED, FORTY_SEVEN, many, Left.FIVE, "1000i", "1000h020h", "1000i020j", "2000h021a031c101h"}) {
      PlainModel m = new PlainModel();
      m.text = text;
      m.solid();
      GluedSolids x = Checks.solidOf(text);
      C.due("of the plain model's " + text, x.group() + " " + Checks.row(x), m.group() + " " + m.told.toString().replaceAll("[\\[\\],]", ""));
    }
  }

  /**
   * Found by trying: in the first seven, numbers that do not go into one another (2 and 5, 2 and 7, 2 and 3) are met in rows
   * that do not follow one another. What is due is what model.py says.
   */
  private static void torsionsGoIntoEachOther() {
    String[][] all = {
      {"3001h012a230g201q131j022f", "0", "10"}, {"3001p032a211s200g220t111r", "0", "10"},
      {"4001k032k123c100h302u021h213r322i", "0", "14"}, {"4001l102b033w222d300q120s213l321h", "0", "6"},
      {"4001x112c123p030q023u102f233s213b", "0", "6"}, {"5001m112e133x214p011n422q403u313x030b432u", "0", "6"},
      {"6021l002d103c034v415d234k333s312w511f110o432d535x", "0", "6"}, {"4001c012f223s123k330o202k021b321r", "0", "2 6"},
      {"4021x012j133a032p233n103b002j123a", "0", "2 6"}, {"5011w032e113m214f402d233q020w131v424x323n", "0", "3 3"},
      {"5021b122v213q324q203f420c412k000x311u431r", "1", "3 3"}, {"5021h112o223k334q120r430o202u400c313c104o", "1", "2 4"},
      {"6001n012v203k104q415d235i404v031m515m333r322g021s", "2", "2 2"}, {"2001p021i110l130d", "0", "2 2"},
      {"8011f102g123r224c005f306m117k515i637k030b432x537r402s614w336v327e", "5", "2 2"}, {"3001k132k022q032o012o121w", "0", "2 4"},
    };
    for (String[] one : all) {
      GluedSolids x = Checks.solidOf(one[0]);
      C.due("RANK of " + one[0], x.group() + ": " + Checks.row(x), one[1] + ": " + one[2]);
      PlainModel m = new PlainModel();
      m.text = one[0];
      m.solid();
      C.due("the plain model's of " + one[0], m.group() + ": " + m.told.toString().replaceAll("[\\[\\],]", ""), one[1] + ": " + one[2]);
    }
  }

  /** Nothing of an earlier question is left in a later one. */
  private static void groupAgainAndAgain() {
    GluedSolids x = new GluedSolids();
    for (int i = 0; i < 30; i++) {
      Checks.solid(x, i % 2 == 0 ? FORTY_SEVEN : Left.BALLS);
      x.group();
      Checks.solid(x, Left.FIVE);
      C.due("again, number " + i, x.group() + " " + Checks.row(x), "0 5");
      Checks.solid(x, "1000i");
      C.due("another one, number " + i, x.group() + " " + x.count(4), "1 0");
    }
  }

  private static void euler() {
    C.begin("15 euler");
    Left.all(C, "euler", Left::fresh, GluedSolids::euler, 101);
    // One POINT, one EDGE, 16 FACES, 8 TETS.
    Left.all(C, "euler", Left::full, GluedSolids::euler, 108);
    Left.all(C, "euler", Left::some, GluedSolids::euler, 100);
    Left.all(C, "below 100", x -> Checks.solid(x, "1000h020h"), GluedSolids::euler, 99);
    Left.all(C, "three below", x -> Checks.solid(x, "8021a032a112m223a304a315a334c416a506u527a707h"), GluedSolids::euler, 97);
    // 11 POINTS, 27 EDGES, 25 FACES, 8 TETS.
    Left.all(C, "many free", x -> Checks.solid(x, Left.LINE), GluedSolids::euler, 101);
  }

  private static void alike() {
    C.begin("16 alike");
    Left.all(C, "alike", Left::fresh, GluedSolids::alike, 24);
    Left.all(C, "one alone", x -> Checks.solid(x, "1000i020j"), GluedSolids::alike, 1);
    Left.all(C, "one alone, eight TETS", x -> Checks.solid(x, "8000h021a032a102i113a132s203s304a325a416a425s437a506r537t606x707r"), GluedSolids::alike, 1);
    Left.all(C, "all of two TETS", x -> Checks.solid(x, Left.BALLS), GluedSolids::alike, 48);
    Left.all(C, "all of five", x -> {
      Checks.solid(x, Left.BALLS);
      x.one(0);
      return x.edges();
    }, GluedSolids::alike, 120);
    Left.all(C, "half of one TET's", x -> Checks.solid(x, "2001a"), GluedSolids::alike, 12);
    Left.all(C, "full", Left::full, GluedSolids::alike, numberings(Left.ONE_EDGE));
    Left.all(C, "a line", x -> Checks.solid(x, Left.LINE), GluedSolids::alike, numberings(Left.LINE));
  }

  /** How many of all NUMBERINGS have the least ROW, by the plain model. */
  private static int numberings(String text) {
    PlainModel m = new PlainModel();
    m.text = text;
    m.solid();
    return m.alike();
  }
}
