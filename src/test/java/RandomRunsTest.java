import java.util.ArrayList;
import java.util.Arrays;
import java.util.List;
import java.util.Random;

/** Random runs of calls on the class and on the plain model: answers, the ROW and the counts must be the same. */
public final class RandomRunsTest {
  private final Random random;
  private final int run;
  private final Both both = new Both();
  private final PlainModel m = both.m;
  private final List<String> calls = new ArrayList<>();
  private boolean isWrong;

  /** A few closed solids beside those that are drawn: of many groups, of one and more POINTS, one that is not TWO-SIDED. */
  private static final String[] KNOWN = {
    "1000g020b", "1000j020j", "1000j020n", "2000j021a031a101j", "2000j021a031q101s", "2001a011a021a031a",
    "2001a011a021a031i", "2001a011a021h031h", "2001a011a021j031s", "2001a011q021x031h",
  };

  private RandomRunsTest(int run) {
    this.run = run;
    this.random = new Random(7919L * run + 17);
  }

  public static void main(String[] args) {
    int runs = args.length > 0 ? Integer.parseInt(args[0]) : 80;
    int first = args.length > 1 ? Integer.parseInt(args[1]) : 0;
    int wrong = 0;
    for (int run = first; run < first + runs && wrong < 5; run++) {
      RandomRunsTest test = new RandomRunsTest(run);
      for (int i = 0; i < 40 && !test.isWrong; i++) {
        test.step();
      }
      wrong += test.isWrong ? 1 : 0;
    }
    System.out.println(wrong == 0 ? "random runs: all answers are as the plain model's" : "random runs: some answers differ");
    System.exit(wrong == 0 ? 0 : 1);
  }

  private int below(int n) {
    return random.nextInt(n);
  }

  /** Mostly a number below n, seldom one that is not. */
  private int about(int n) {
    int odd = below(20);
    return odd == 0 ? n : odd == 1 ? -1 : below(n);
  }

  private int anyTet() {
    return below(12) == 0 ? about(8) : below(m.now.length);
  }

  private void step() {
    switch (below(36)) {
      case 0:
      case 1:
      case 2:
      case 3:
        feed(drawSolid());
        call("solid");
        break;
      case 4:
        feed(spoil(drawSolid()));
        call("solid");
        break;
      case 5:
        int[] place = anyPlace();
        call(new String[] {"two", "three", "one", "four"}[place[0]], Arrays.copyOfRange(place, 1, place.length));
        break;
      case 6:
        call("two", anyTet(), about(4));
        break;
      case 7:
        call("three", anyTet(), about(4), about(4));
        break;
      case 8:
        call("one", anyTet());
        break;
      case 9:
        call("four", anyTet(), about(4));
        break;
      case 10:
      case 11:
        feed(below(6) == 0 ? spoil(drawTrail()) : drawTrail());
        call(below(2) == 0 ? "trail" : "tries");
        break;
      case 12:
        call("comes");
        break;
      case 13:
        call("leads", about(2));
        break;
      case 14:
        call("simpler");
        break;
      case 15:
      case 16:
        call("way", about(2), below(10) == 0 ? about(31) : 1 + below(30), 1 + about(8));
        break;
      case 17:
        call("drawn", random.nextInt(), 1 + about(12));
        break;
      case 18:
        call("undo");
        break;
      case 19:
        call("heard", about(5), below(4) == 0 ? about(50) : below(3));
        break;
      case 20:
        call(below(3) == 0 ? "forget" : "fits");
        break;
      case 21:
        call("keep", about(2));
        break;
      case 22:
        call("again", about(2));
        break;
      case 23:
        call("same", about(2));
        break;
      case 24:
        int sloping = below(3);
        call("sheet", below(10) == 0 ? about(4) : below(3), below(4) == 0 ? about(33) : 4 * m.now.length, sloping == 0 ? random.nextInt() : below(300) - 20, sloping == 0 ? random.nextInt() : below(40) - 10);
        break;
      case 25:
        call("degree", anyTet(), about(4), about(4));
        break;
      case 26:
        call("point", anyTet(), about(4));
        break;
      case 27:
        call("glued", anyTet(), about(4), about(3));
        break;
      case 28:
        call("sign", random.nextInt());
        call("end", about(81));
        break;
      case 29:
        call("alike");
        break;
      case 30:
      case 31:
        goAway();
        break;
      default:
        call(new String[] {"edges", "points", "manifold", "sides", "group", "euler", "shows"}[below(7)]);
    }
  }

  /** Keeps THE SOLID, goes on by a few MOVES, and asks for the way back. */
  private void goAway() {
    call("keep", 0);
    int steps = 1 + below(3);
    for (int i = 0; i < steps; i++) {
      int[] place = anyPlace();
      call(new String[] {"two", "three", "one", "four"}[place[0]], Arrays.copyOfRange(place, 1, place.length));
    }
    call("leads", 0);
    call("way", 0, 1 + below(30), 1 + below(8));
    call("way", 0, 30, 8);
  }

  private void feed(String text) {
    call("end", 0);
    for (int i = 0; i < text.length() && i < 80; i += 4) {
      int v = 0;
      for (int k = 0; k < 4; k++) {
        v = v << 8 | (i + k < text.length() ? text.charAt(i + k) : 0);
      }
      call("sign", v);
    }
    call("end", Math.min(80, text.length()));
  }

  /** A solid: a tree of TETS, then pairs of FACES at random, all or some of them. */
  private String drawSolid() {
    if (below(5) == 0) {
      return KNOWN[below(KNOWN.length)];
    }
    if (below(6) == 0) {
      return below(2) == 0 ? drawAroundEdge() : drawAroundPoint();
    }
    int tets = 1 + below(below(3) == 0 ? 8 : 4);
    int[][][] s = PlainModel.lone(tets);
    StringBuilder b = new StringBuilder("" + tets);
    for (int t = 1; t < tets; t++) {
      int to = below(t);
      List<Integer> free = freeOf(s, to);
      if (!free.isEmpty()) {
        addPair(s, b, t, below(4), to, free.get(below(free.size())));
      }
    }
    return addSome(s, b, below(3) == 0 ? below(2 * tets + 1) : 2 * tets);
  }

  /** Three TETS, or some, around EDGE 0 1, closed up straight or turned; outside some more pairs. */
  private String drawAroundEdge() {
    int tets = below(2) == 0 ? 3 : 1 + below(5);
    int[][][] s = PlainModel.lone(tets);
    StringBuilder b = new StringBuilder("" + tets);
    for (int t = 0; t < tets; t++) {
      int to = (t + 1) % tets;
      boolean isTurned = t == tets - 1 && below(3) == 0;
      int[] p = isTurned ? new int[] {1, 0, 3, 2} : new int[] {0, 1, 3, 2};
      PlainModel.glue(s, t, 2, to, p);
      b.append(t).append(2).append(to).append((char) ('a' + PlainModel.letter(p)));
    }
    return addSome(s, b, below(2 * tets));
  }

  /** Four TETS, their CORNERS 3 at one POINT or at some, each two meeting once; outside some more pairs. */
  private String drawAroundPoint() {
    int[][][] s = PlainModel.lone(4);
    StringBuilder b = new StringBuilder("4");
    boolean isStraight = below(2) == 0;
    for (int t = 0; t < 4; t++) {
      for (int to = t + 1; to < 4; to++) {
        int[] p;
        do {
          p = PlainModel.PERMS.get(below(24));
        } while (p[3] != 3 || p[to - 1] != t || isStraight && !isFan(p, t, to));
        PlainModel.glue(s, t, to - 1, to, p);
        b.append(t).append(to - 1).append(to).append((char) ('a' + PlainModel.letter(p)));
      }
    }
    return addSome(s, b, below(4));
  }

  /** TET t has around the POINT those of 0 .. 3 that are not t, in order: whether a permutation sends each to itself. */
  private static boolean isFan(int[] p, int t, int to) {
    for (int c = 0; c < 3; c++) {
      int mine = c < t ? c : c + 1;
      int theirs = p[c] < to ? p[c] : p[c] + 1;
      if (mine != to && mine != theirs) {
        return false;
      }
    }
    return true;
  }

  private String addSome(int[][][] s, StringBuilder b, int some) {
    for (int i = 0; i < some; i++) {
      int t = below(s.length);
      int to = below(s.length);
      List<Integer> mine = freeOf(s, t);
      List<Integer> theirs = freeOf(s, to);
      if (!mine.isEmpty() && !theirs.isEmpty()) {
        int f = mine.get(below(mine.size()));
        int g = theirs.get(below(theirs.size()));
        if (t != to || f != g) {
          addPair(s, b, t, f, to, g);
        }
      }
    }
    return b.toString();
  }

  private static List<Integer> freeOf(int[][][] s, int t) {
    List<Integer> free = new ArrayList<>();
    for (int f = 0; f < 4; f++) {
      if (s[t][f] == null) {
        free.add(f);
      }
    }
    return free;
  }

  private void addPair(int[][][] s, StringBuilder b, int t, int f, int to, int g) {
    int[] p;
    do {
      p = PlainModel.PERMS.get(below(24));
    } while (p[f] != g);
    PlainModel.glue(s, t, f, to, p);
    b.append(t).append(f).append(to).append((char) ('a' + PlainModel.letter(p)));
  }

  private String spoil(String text) {
    if (text.isEmpty()) {
      return "q";
    }
    if (below(3) == 0) {
      return text.substring(0, below(text.length()));
    }
    char[] signs = text.toCharArray();
    String some = "0123456789abgxyzftep\0\377";
    signs[below(signs.length)] = some.charAt(below(some.length()));
    return new String(signs);
  }

  private int[] anyPlace() {
    List<int[]> good = new ArrayList<>();
    int kind = below(4);
    for (int[] place : PlainModel.places(m.now)) {
      if (place[0] == kind && !(PlainModel.moveAt(m.now, place) instanceof Integer)) {
        good.add(place);
      }
    }
    return good.isEmpty() ? new int[] {2, 0} : good.get(below(good.size()));
  }

  /** A trail whose MOVES can mostly be. */
  private String drawTrail() {
    StringBuilder b = new StringBuilder();
    int[][][] s = m.now;
    int steps = below(6);
    for (int i = 0; i < steps; i++) {
      List<int[]> all = PlainModel.places(s);
      int[] place = all.get(below(all.size()));
      Object r = PlainModel.moveAt(s, place);
      for (int k = 0; k < 10 && r instanceof Integer; k++) {
        place = all.get(below(all.size()));
        r = PlainModel.moveAt(s, place);
      }
      b.append("fetp".charAt(place[0]));
      for (int k = 1; k < place.length; k++) {
        b.append(below(60) == 0 ? 9 : place[k]);
      }
      if (r instanceof Integer) {
        break;
      }
      s = (int[][][]) r;
    }
    return b.toString();
  }

  private void call(String name, int... a) {
    if (isWrong) {
      return;
    }
    String told = name + Arrays.toString(a);
    String got = both.answer(true, name, a);
    String want = both.answer(false, name, a);
    calls.add(told + " = " + got);
    if (!got.equals(want)) {
      isWrong = true;
      System.out.println("run " + run + ": " + told + " answered " + got + ", the plain model " + want);
      System.out.println("  the solid was " + PlainModel.show(m.now));
      System.out.println("  " + String.join("\n  ", calls));
    }
  }
}
