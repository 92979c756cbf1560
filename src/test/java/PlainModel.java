import java.math.BigInteger;
import java.util.ArrayDeque;
import java.util.ArrayList;
import java.util.Arrays;
import java.util.Collections;
import java.util.HashMap;
import java.util.HashSet;
import java.util.LinkedHashSet;
import java.util.List;
import java.util.Map;
import java.util.NoSuchElementException;
import java.util.Set;
import java.util.TreeMap;
import java.util.TreeSet;

/**
 * The document once more, written by other ways than the class (labels instead of permutation tables, all rows
 * of all numberings, union of sets, big numbers), slowly and without its rules, to be held against it.
 */
final class PlainModel {
  static final List<int[]> PERMS = perms();

  /** glue[t][f]: null, or {tet, image of 0, 1, 2, 3}. */
  int[][][] now = lone(1);
  List<Long> told = new ArrayList<>();
  String text = "";
  ArrayDeque<int[][][]> past = new ArrayDeque<>();
  int[][][][] kept = new int[2][][][];
  List<int[]> rumours = new ArrayList<>();

  private static List<int[]> perms() {
    List<int[]> all = new ArrayList<>();
    for (int i = 0; i < 256; i++) {
      int[] p = {i / 64, i / 16 % 4, i / 4 % 4, i % 4};
      if (Arrays.stream(p).distinct().count() == 4) {
        all.add(p);
      }
    }
    return all;
  }

  static int letter(int[] p) {
    for (int i = 0; i < 24; i++) {
      if (Arrays.equals(PERMS.get(i), p)) {
        return i;
      }
    }
    throw new IllegalStateException();
  }

  static int[][][] lone(int tets) {
    return new int[tets][4][];
  }

  static int[] turnOf(int[] g) {
    return Arrays.copyOfRange(g, 1, 5);
  }

  static int[] inverse(int[] p) {
    int[] q = new int[4];
    for (int i = 0; i < 4; i++) {
      q[p[i]] = i;
    }
    return q;
  }

  static void glue(int[][][] s, int t, int f, int to, int[] p) {
    s[t][f] = new int[] {to, p[0], p[1], p[2], p[3]};
    int[] q = inverse(p);
    s[to][p[f]] = new int[] {t, q[0], q[1], q[2], q[3]};
  }

  // ---- numbering

  /** The row of one numbering. */
  static List<Integer> rowOf(int[][][] s, int first, int[] names) {
    Map<Integer, Integer> number = new HashMap<>();
    List<Integer> order = new ArrayList<>();
    Map<Integer, int[]> nameOf = new HashMap<>();
    number.put(first, 0);
    order.add(first);
    nameOf.put(first, names);
    List<Integer> row = new ArrayList<>();
    for (int i = 0; i < order.size(); i++) {
      int t = order.get(i);
      int[] mine = nameOf.get(t);
      int[] old = inverse(mine);
      for (int g = 0; g < 4; g++) {
        int[] glue = s[t][old[g]];
        if (glue == null) {
          row.add(-1);
          continue;
        }
        if (!number.containsKey(glue[0])) {
          number.put(glue[0], order.size());
          order.add(glue[0]);
          int[] theirs = new int[4];
          for (int c = 0; c < 4; c++) {
            theirs[glue[1 + c]] = mine[c];
          }
          nameOf.put(glue[0], theirs);
        }
        int[] p = new int[4];
        for (int c = 0; c < 4; c++) {
          p[mine[c]] = nameOf.get(glue[0])[glue[1 + c]];
        }
        row.add(24 * number.get(glue[0]) + letter(p));
      }
    }
    return row;
  }

  static int compare(List<Integer> a, List<Integer> b) {
    for (int i = 0; i < Math.min(a.size(), b.size()); i++) {
      if (!a.get(i).equals(b.get(i))) {
        return a.get(i) - b.get(i);
      }
    }
    return a.size() - b.size();
  }

  static List<List<Integer>> allRows(int[][][] s) {
    List<List<Integer>> all = new ArrayList<>();
    for (int t = 0; t < s.length; t++) {
      for (int[] p : PERMS) {
        all.add(rowOf(s, t, p));
      }
    }
    return all;
  }

  /** Least rows that were asked before: the same few solids are asked for over and over. */
  private static final Map<String, List<Integer>> LEAST_ROWS = new HashMap<>();

  static List<Integer> leastRow(int[][][] s) {
    if (LEAST_ROWS.size() > 100000) {
      LEAST_ROWS.clear();
    }
    return LEAST_ROWS.computeIfAbsent(Arrays.deepToString(s), key -> Collections.min(allRows(s), PlainModel::compare));
  }

  static int[][][] fromRow(List<Integer> row) {
    int[][][] s = lone(row.size() / 4);
    for (int i = 0; i < row.size(); i++) {
      if (row.get(i) >= 0) {
        int[] p = PERMS.get(row.get(i) % 24);
        s[i / 4][i % 4] = new int[] {row.get(i) / 24, p[0], p[1], p[2], p[3]};
      }
    }
    return s;
  }

  static int[][][] settled(int[][][] s) {
    return fromRow(leastRow(s));
  }

  static boolean same(int[][][] a, int[][][] b) {
    return Arrays.deepEquals(a, b);
  }

  static boolean hangs(int[][][] s) {
    Set<Integer> seen = new HashSet<>(Set.of(0));
    List<Integer> todo = new ArrayList<>(List.of(0));
    while (!todo.isEmpty()) {
      for (int[] g : s[todo.remove(0)]) {
        if (g != null && seen.add(g[0])) {
          todo.add(g[0]);
        }
      }
    }
    return seen.size() == s.length;
  }

  static int freeFaces(int[][][] s) {
    int n = 0;
    for (int[][] t : s) {
      for (int[] g : t) {
        n += g == null ? 1 : 0;
      }
    }
    return n;
  }

  // ---- classes, by sets that are united

  static final class Union {
    final Map<String, String> up = new TreeMap<>();
    private Map<String, List<String>> classes;

    String find(String a) {
      up.putIfAbsent(a, a);
      while (!up.get(a).equals(a)) {
        a = up.get(a);
      }
      return a;
    }

    void unite(String a, String b) {
      String x = find(a);
      String y = find(b);
      if (x.compareTo(y) < 0) {
        up.put(y, x);
      } else {
        up.put(x, y);
      }
    }

    /** To be asked when nothing more is united. */
    Map<String, List<String>> classes() {
      if (classes == null) {
        classes = new TreeMap<>();
        for (String a : up.keySet()) {
          classes.computeIfAbsent(find(a), k -> new ArrayList<>()).add(a);
        }
      }
      return classes;
    }
  }

  static String key(int... a) {
    StringBuilder b = new StringBuilder();
    for (int x : a) {
      b.append(x);
    }
    return b.toString();
  }

  /** Ends "tuv", EDGES of TETS "tuv" with u below v, CORNERS "tv" of a solid. */
  static final class Bones {
    final Union ends = new Union();
    final Union edges = new Union();
    final Union corners = new Union();
    final Union sides = new Union();
    final int[][][] s;

    private static Bones latest;

    /** The bones of the solid that was asked for last are not made anew. */
    static Bones of(int[][][] s) {
      if (latest == null || latest.s != s) {
        latest = new Bones(s);
      }
      return latest;
    }

    private Bones(int[][][] s) {
      this.s = s;
      for (int t = 0; t < s.length; t++) {
        for (int u = 0; u < 4; u++) {
          corners.find(key(t, u));
          for (int v = 0; v < 4; v++) {
            if (u != v) {
              ends.find(key(t, u, v));
              sides.find(key(t, u, v));
              edges.find(edgeKey(t, u, v));
            }
          }
        }
      }
      for (int t = 0; t < s.length; t++) {
        for (int f = 0; f < 4; f++) {
          if (s[t][f] != null) {
            uniteAcross(t, f, s[t][f]);
          }
        }
      }
    }

    static String edgeKey(int t, int u, int v) {
      return key(t, Math.min(u, v), Math.max(u, v));
    }

    void uniteAcross(int t, int f, int[] g) {
      for (int u = 0; u < 4; u++) {
        if (u == f) {
          continue;
        }
        corners.unite(key(t, u), key(g[0], g[1 + u]));
        sides.unite(key(t, u, f), key(g[0], g[1 + u], g[1 + f]));
        for (int v = 0; v < 4; v++) {
          if (v != f && v != u) {
            ends.unite(key(t, u, v), key(g[0], g[1 + u], g[1 + v]));
            edges.unite(edgeKey(t, u, v), edgeKey(g[0], g[1 + u], g[1 + v]));
          }
        }
      }
    }

    List<String> edgeOf(int t, int u, int v) {
      return edges.classes().get(edges.find(edgeKey(t, u, v)));
    }

    boolean isFree(List<String> edge) {
      for (String e : edge) {
        for (int f = 0; f < 4; f++) {
          if (e.substring(1).indexOf('0' + f) < 0 && s[e.charAt(0) - '0'][f] == null) {
            return true;
          }
        }
      }
      return false;
    }

    boolean isReversed(List<String> edge) {
      String e = edge.get(0);
      String back = "" + e.charAt(0) + e.charAt(2) + e.charAt(1);
      return ends.find(e).equals(ends.find(back));
    }

    List<String> pointOf(int t, int v) {
      return corners.classes().get(corners.find(key(t, v)));
    }

    int endsOf(List<String> point) {
      Set<String> all = new TreeSet<>();
      for (String e : ends.up.keySet()) {
        if (point.contains(e.substring(0, 2))) {
          all.add(ends.find(e));
        }
      }
      return all.size();
    }

    int sidesOf(List<String> point) {
      Set<String> all = new TreeSet<>();
      for (String e : sides.up.keySet()) {
        if (point.contains(e.substring(0, 2))) {
          all.add(sides.find(e));
        }
      }
      return all.size();
    }

    int chi(List<String> point) {
      return endsOf(point) - sidesOf(point) + point.size();
    }

    boolean isRound(List<String> point) {
      if (chi(point) != 2) {
        return false;
      }
      for (String c : point) {
        for (int f = 0; f < 4; f++) {
          if (f != c.charAt(1) - '0' && s[c.charAt(0) - '0'][f] == null) {
            return false;
          }
        }
      }
      return true;
    }

    int reversed() {
      int n = 0;
      for (List<String> e : edges.classes().values()) {
        n += isReversed(e) ? 1 : 0;
      }
      return n;
    }

    int round() {
      int n = 0;
      for (List<String> p : corners.classes().values()) {
        n += isRound(p) ? 1 : 0;
      }
      return n;
    }

    boolean isManifold() {
      return freeFaces(s) == 0 && reversed() == 0 && round() == corners.classes().size();
    }
  }

  // ---- moves, by labels of corners

  /**
   * TETS gone, each with labels of its CORNERS, are taken out for fresh ones told by labels. FACES of equal labels
   * are one: of two fresh TETS they are glued, of an old and a fresh one the fresh one has what the old one had.
   */
  static int[][][] replace(int[][][] s, Map<Integer, String> gone, List<String> fresh) {
    Map<Integer, Integer> number = new HashMap<>();
    for (int t = 0; t < s.length; t++) {
      if (!gone.containsKey(t)) {
        number.put(t, number.size());
      }
    }
    int stay = number.size();
    int[][][] out = lone(stay + fresh.size());
    for (int t = 0; t < s.length; t++) {
      for (int f = 0; f < 4; f++) {
        int[] g = s[t][f];
        if (g == null || isInner(gone, t, f, s)) {
          continue;
        }
        Object[] here = seat(t, f, number, gone, fresh, stay);
        Object[] there = seat(g[0], g[1 + f], number, gone, fresh, stay);
        int[] fromMap = (int[]) here[1];
        int[] toMap = (int[]) there[1];
        int[] p = new int[4];
        for (int c = 0; c < 4; c++) {
          p[fromMap[c]] = toMap[g[1 + c]];
        }
        glue(out, (int) here[0], fromMap[f], (int) there[0], p);
      }
    }
    for (int i = 0; i < fresh.size(); i++) {
      for (int j = i + 1; j < fresh.size(); j++) {
        joinByLabels(out, stay, fresh, i, j);
      }
    }
    return out;
  }

  static Set<Character> faceLabels(String tet, int f) {
    Set<Character> all = new TreeSet<>();
    for (int c = 0; c < 4; c++) {
      if (c != f) {
        all.add(tet.charAt(c));
      }
    }
    return all;
  }

  /** An inner FACE is one whose labels two TETS that go have, glued to one another. */
  static boolean isInner(Map<Integer, String> gone, int t, int f, int[][][] s) {
    int[] g = s[t][f];
    if (!gone.containsKey(t) || g == null || !gone.containsKey(g[0])) {
      return false;
    }
    for (int c = 0; c < 4; c++) {
      if (c != f && gone.get(t).charAt(c) != gone.get(g[0]).charAt(g[1 + c])) {
        return false;
      }
    }
    return true;
  }

  /** The new TET that has a FACE of an old one, and new names of the old one's CORNERS. */
  static Object[] seat(int t, int f, Map<Integer, Integer> number, Map<Integer, String> gone, List<String> fresh, int stay) {
    if (number.containsKey(t)) {
      return new Object[] {number.get(t), new int[] {0, 1, 2, 3}};
    }
    String old = gone.get(t);
    for (int i = 0; i < fresh.size(); i++) {
      for (int g = 0; g < 4; g++) {
        if (faceLabels(fresh.get(i), g).equals(faceLabels(old, f))) {
          int[] map = new int[4];
          for (int c = 0; c < 4; c++) {
            map[c] = c == f ? g : fresh.get(i).indexOf(old.charAt(c));
          }
          return new Object[] {stay + i, map};
        }
      }
    }
    throw new IllegalStateException("no seat");
  }

  static void joinByLabels(int[][][] out, int stay, List<String> fresh, int i, int j) {
    for (int f = 0; f < 4; f++) {
      for (int g = 0; g < 4; g++) {
        if (faceLabels(fresh.get(i), f).equals(faceLabels(fresh.get(j), g))) {
          int[] p = new int[4];
          for (int c = 0; c < 4; c++) {
            p[c] = c == f ? g : fresh.get(j).indexOf(fresh.get(i).charAt(c));
          }
          glue(out, stay + i, f, stay + j, p);
        }
      }
    }
  }

  static boolean isCorner(int[][][] s, int t, int v) {
    return t >= 0 && t < s.length && v >= 0 && v < 4;
  }

  /** What a MOVE comes to, or {@code Integer}. */
  static Object move(int[][][] s, int kind, int[] a) {
    switch (kind) {
      case 0:
        return moveTwo(s, a[0], a[1]);
      case 1:
        return moveThree(s, a[0], a[1], a[2]);
      case 2:
        return moveOne(s, a[0]);
      default:
        return moveFour(s, a[0], a[1]);
    }
  }

  static Object moveTwo(int[][][] s, int t, int f) {
    if (!isCorner(s, t, f)) {
      return -1;
    }
    if (s[t][f] == null || s[t][f][0] == t) {
      return -2;
    }
    if (s.length == 8) {
      return -3;
    }
    char[] mine = new char[4];
    char[] theirs = new char[4];
    String names = "abc";
    int k = 0;
    for (int c = 0; c < 4; c++) {
      mine[c] = c == f ? 'u' : names.charAt(k++);
      theirs[s[t][f][1 + c]] = c == f ? 'v' : mine[c];
    }
    return settled(replace(s, Map.of(t, new String(mine), s[t][f][0], new String(theirs)), List.of("uvab", "uvbc", "uvac")));
  }

  static Object moveOne(int[][][] s, int t) {
    if (t < 0 || t >= s.length) {
      return -1;
    }
    if (s.length > 5) {
      return -3;
    }
    return settled(replace(s, Map.of(t, "abcd"), List.of("xabc", "bxad", "cdxa", "bcdx")));
  }

  static Object moveThree(int[][][] s, int t, int u, int v) {
    if (!isCorner(s, t, u) || !isCorner(s, t, v) || u == v) {
      return -1;
    }
    Bones b = Bones.of(s);
    List<String> edge = b.edgeOf(t, u, v);
    Set<Character> tets = new TreeSet<>();
    for (String e : edge) {
      tets.add(e.charAt(0));
    }
    if (edge.size() != 3 || tets.size() != 3 || b.isFree(edge) || b.isReversed(edge)) {
      return -2;
    }
    // Round the EDGE: labels go along from TET to TET, the CORNER that comes new is the third one.
    Map<Integer, String> gone = new HashMap<>();
    int at = t;
    char[] names = new char[4];
    names[u] = 'u';
    names[v] = 'v';
    String left = "XY";
    for (int c = 0, k = 0; c < 4; c++) {
      if (c != u && c != v) {
        names[c] = left.charAt(k++);
      }
    }
    char drop = 'X';
    char come = 'Z';
    for (int i = 0; i < 3; i++) {
      gone.put(at, new String(names));
      int f = new String(names).indexOf(drop);
      int[] g = s[at][f];
      char[] next = new char[4];
      for (int c = 0; c < 4; c++) {
        next[g[1 + c]] = c == f ? come : names[c];
      }
      at = g[0];
      names = next;
      char third = (char) ('X' + 'Y' + 'Z' - drop - come);
      come = drop;
      drop = third;
    }
    if (at != t || !gone.get(t).equals(new String(names))) {
      throw new IllegalStateException("labels do not close up");
    }
    return settled(replace(s, gone, List.of("uXYZ", "ZvXY")));
  }

  static Object moveFour(int[][][] s, int t, int v) {
    if (!isCorner(s, t, v)) {
      return -1;
    }
    Bones b = Bones.of(s);
    List<String> point = b.pointOf(t, v);
    Set<Character> tets = new TreeSet<>();
    for (String c : point) {
      tets.add(c.charAt(0));
    }
    if (point.size() != 4 || tets.size() != 4 || !b.isRound(point)) {
      return -2;
    }
    for (String c : point) {
      for (String d : point) {
        int met = 0;
        for (int f = 0; f < 4; f++) {
          int[] g = s[c.charAt(0) - '0'][f];
          met += f != c.charAt(1) - '0' && g != null && g[0] == d.charAt(0) - '0' ? 1 : 0;
        }
        if (!c.equals(d) && met != 1) {
          return -2;
        }
      }
    }
    List<String> seen = new ArrayList<>();
    Map<Integer, String> gone = new HashMap<>();
    for (String c : point) {
      StringBuilder names = new StringBuilder();
      for (int o = 0; o < 4; o++) {
        if (o == c.charAt(1) - '0') {
          names.append('x');
          continue;
        }
        String end = b.ends.find(c + o);
        if (!seen.contains(end)) {
          seen.add(end);
        }
        names.append((char) ('a' + seen.indexOf(end)));
      }
      gone.put(c.charAt(0) - '0', names.toString());
    }
    if (seen.size() != 4) {
      throw new IllegalStateException("not four ends");
    }
    return settled(replace(s, gone, List.of("abcd")));
  }

  /** All places in order: kind, then TET and FACE or CORNERS. */
  static List<int[]> places(int[][][] s) {
    List<int[]> all = new ArrayList<>();
    for (int kind = 0; kind < 4; kind++) {
      for (int t = 0; t < s.length; t++) {
        if (kind == 2) {
          all.add(new int[] {kind, t});
          continue;
        }
        for (int u = 0; u < 4; u++) {
          if (kind != 1) {
            all.add(new int[] {kind, t, u});
            continue;
          }
          for (int v = u + 1; v < 4; v++) {
            all.add(new int[] {kind, t, u, v});
          }
        }
      }
    }
    return all;
  }

  static Object moveAt(int[][][] s, int[] place) {
    return move(s, place[0], Arrays.copyOfRange(place, 1, 4));
  }

  // ---- the face

  void tell(long... numbers) {
    told = new ArrayList<>();
    for (long n : numbers) {
      told.add(n);
    }
  }

  void remember(int[][][] was) {
    past.addLast(was);
    if (past.size() > 8) {
      past.removeFirst();
    }
  }

  int sign(int v) {
    if (text.length() + 4 > 80) {
      return -1;
    }
    for (int i = 3; i >= 0; i--) {
      text += (char) ((v >> (8 * i)) & 255);
    }
    return text.length();
  }

  boolean end(int n) {
    if (n < 0 || n > text.length()) {
      return false;
    }
    text = text.substring(0, n);
    return true;
  }

  int solid() {
    String in = text;
    text = "";
    if (in.isEmpty() || in.charAt(0) < '1' || in.charAt(0) > '8') {
      return -1;
    }
    int[][][] s = lone(in.charAt(0) - '0');
    int t = 0;
    int f = 0;
    int to = 0;
    for (int p = 1; p < in.length(); p++) {
      char c = in.charAt(p);
      boolean good;
      if (p % 4 == 1) {
        t = c - '0';
        good = t >= 0 && t < s.length;
      } else if (p % 4 == 2) {
        f = c - '0';
        good = f >= 0 && f < 4 && s[t][f] == null;
      } else if (p % 4 == 3) {
        to = c - '0';
        good = to >= 0 && to < s.length;
      } else {
        good = c >= 'a' && c <= 'x';
        if (good) {
          int[] perm = PERMS.get(c - 'a');
          good = s[to][perm[f]] == null && !(to == t && perm[f] == f);
          if (good) {
            glue(s, t, f, to, perm);
          }
        }
      }
      if (!good) {
        return -1 - p;
      }
    }
    if (in.length() % 4 != 1) {
      return -1 - in.length();
    }
    if (!hangs(s)) {
      return -200;
    }
    remember(now);
    now = settled(s);
    return now.length;
  }

  int glued(int t, int f, int what) {
    if (!isCorner(now, t, f) || what < 0 || what > 2) {
      throw new NoSuchElementException();
    }
    int[] g = now[t][f];
    if (g == null) {
      return -1;
    }
    return what == 0 ? g[0] : what == 1 ? letter(turnOf(g)) : g[1 + f];
  }

  static String show(int[][][] s) {
    StringBuilder b = new StringBuilder("" + s.length);
    for (int t = 0; t < s.length; t++) {
      for (int f = 0; f < 4; f++) {
        int[] g = s[t][f];
        if (g != null && (g[0] > t || g[0] == t && g[1 + f] > f)) {
          b.append(t).append(f).append(g[0]).append((char) ('a' + letter(turnOf(g))));
        }
      }
    }
    return b.toString();
  }

  int shows() {
    told = new ArrayList<>();
    for (char c : show(now).toCharArray()) {
      told.add((long) c);
    }
    return told.size();
  }

  int sheet(int kind, int n, int f, int step) {
    if (kind < 0 || kind > 3 || n > 32) {
      return -1;
    }
    if (kind == 3) {
      return -3;
    }
    if (n < 0) {
      return -2;
    }
    int[][][] s = fromRow(rowOf(now, 0, new int[] {0, 1, 2, 3}));
    int entry = f;
    for (int i = 0; i < 4 * now.length; i++) {
      int value = kind == 0 ? (byte) entry : kind == 1 ? (short) entry : entry;
      int[] g = s[i / 4][i % 4];
      if ((i >= n || value < 0) && g != null) {
        s[g[0]][g[1 + i % 4]] = null;
        s[i / 4][i % 4] = null;
      }
      entry += step;
    }
    if (!hangs(s)) {
      return -4;
    }
    now = settled(s);
    return freeFaces(now);
  }

  int degree(int t, int u, int v) {
    if (!isCorner(now, t, u) || !isCorner(now, t, v) || u == v) {
      return -1;
    }
    Bones b = Bones.of(now);
    List<String> e = b.edgeOf(t, u, v);
    tell(b.isFree(e) ? 1 : 0, b.isReversed(e) ? 1 : 0);
    return e.size();
  }

  int point(int t, int v) {
    if (!isCorner(now, t, v)) {
      return -1;
    }
    Bones b = Bones.of(now);
    List<String> p = b.pointOf(t, v);
    tell(b.endsOf(p), b.chi(p), b.isRound(p) ? 1 : 0);
    return p.size();
  }

  int edges() {
    Bones b = Bones.of(now);
    TreeMap<Integer, Integer> many = new TreeMap<>();
    for (List<String> e : b.edges.classes().values()) {
      many.merge(e.size(), 1, Integer::sum);
    }
    tell(many.firstKey(), many.firstEntry().getValue(), many.lastKey(), many.lastEntry().getValue(), b.reversed());
    return b.edges.classes().size();
  }

  int points() {
    Bones b = Bones.of(now);
    int least = Integer.MAX_VALUE;
    for (List<String> p : b.corners.classes().values()) {
      least = Math.min(least, b.chi(p));
    }
    tell(b.round(), least);
    return b.corners.classes().size();
  }

  int manifold() {
    Bones b = Bones.of(now);
    tell(freeFaces(now), b.reversed(), b.corners.classes().size() - b.round());
    return b.isManifold() ? 1 : 0;
  }

  static boolean isEven(int[] p) {
    int turned = 0;
    for (int i = 0; i < 4; i++) {
      for (int j = 0; j < i; j++) {
        turned += p[j] > p[i] ? 1 : 0;
      }
    }
    return turned % 2 == 0;
  }

  int sides() {
    // Every way to tell TETS 0 or 1, TET 0 being told 0, is tried.
    for (int ones = 0; ones < 1 << now.length; ones += 2) {
      boolean good = true;
      for (int t = 0; t < now.length; t++) {
        for (int[] g : now[t]) {
          good &= g == null || isEven(turnOf(g)) == ((ones >> t & 1) != (ones >> g[0] & 1));
        }
      }
      if (good) {
        tell(ones);
        return 1;
      }
    }
    tell();
    return 0;
  }

  int group() {
    // One number for each pair; a tree's pairs are said to be 0 by rows of their own.
    Map<String, Integer> pair = new HashMap<>();
    Map<String, Integer> way = new HashMap<>();
    for (int t = 0; t < now.length; t++) {
      for (int f = 0; f < 4; f++) {
        int[] g = now[t][f];
        if (g != null && (g[0] > t || g[0] == t && g[1 + f] > f)) {
          int n = pair.size() / 2;
          pair.put(key(t, f), n);
          pair.put(key(g[0], g[1 + f]), n);
          way.put(key(t, f), 1);
          way.put(key(g[0], g[1 + f]), -1);
        }
      }
    }
    int columns = pair.size() / 2;
    List<BigInteger[]> rows = new ArrayList<>();
    deepTree(0, new HashSet<>(Set.of(0)), pair, columns, rows);
    Bones b = Bones.of(now);
    for (List<String> e : b.edges.classes().values()) {
      if (b.isFree(e)) {
        continue;
      }
      BigInteger[] sum = zeros(columns);
      String last = e.get(e.size() - 1);
      int t = last.charAt(0) - '0';
      String others = "0123".replace(last.substring(1, 2), "").replace(last.substring(2, 3), "");
      int out = others.charAt(1) - '0';
      int other = others.charAt(0) - '0';
      for (int i = 0; i < e.size(); i++) {
        int n = pair.get(key(t, out));
        sum[n] = sum[n].add(BigInteger.valueOf(way.get(key(t, out))));
        int[] g = now[t][out];
        t = g[0];
        int in = g[1 + out];
        out = g[1 + other];
        other = in;
      }
      rows.add(sum);
    }
    List<BigInteger> left = smith(rows, columns);
    told = new ArrayList<>();
    int rank = columns;
    for (BigInteger d : left) {
      rank--;
      if (!d.equals(BigInteger.ONE)) {
        told.add(d.longValueExact());
      }
    }
    return rank;
  }

  static BigInteger[] zeros(int n) {
    BigInteger[] row = new BigInteger[n];
    Arrays.fill(row, BigInteger.ZERO);
    return row;
  }

  void deepTree(int t, Set<Integer> seen, Map<String, Integer> pair, int columns, List<BigInteger[]> rows) {
    for (int f = 3; f >= 0; f--) {
      int[] g = now[t][f];
      if (g != null && seen.add(g[0])) {
        BigInteger[] row = zeros(columns);
        row[pair.get(key(t, f))] = BigInteger.ONE;
        rows.add(row);
        deepTree(g[0], seen, pair, columns, rows);
      }
    }
  }

  /** The numbers of the diagonal that are not 0: first any diagonal, then each two by their common divisor. */
  static List<BigInteger> smith(List<BigInteger[]> rows, int columns) {
    List<BigInteger> diagonal = new ArrayList<>();
    List<BigInteger[]> rest = new ArrayList<>(rows);
    while (true) {
      int r = -1;
      int c = -1;
      for (int i = 0; i < rest.size() && r < 0; i++) {
        for (int j = 0; j < columns && r < 0; j++) {
          if (rest.get(i)[j].signum() != 0) {
            r = i;
            c = j;
          }
        }
      }
      if (r < 0) {
        break;
      }
      boolean alone = false;
      while (!alone) {
        alone = true;
        for (int i = 0; i < rest.size(); i++) {
          while (i != r && rest.get(i)[c].signum() != 0) {
            BigInteger q = rest.get(i)[c].divide(rest.get(r)[c]);
            for (int j = 0; j < columns; j++) {
              rest.get(i)[j] = rest.get(i)[j].subtract(q.multiply(rest.get(r)[j]));
            }
            if (rest.get(i)[c].signum() != 0) {
              Collections.swap(rest, i, r);
            }
          }
        }
        for (int j = 0; j < columns; j++) {
          while (j != c && rest.get(r)[j].signum() != 0) {
            alone = false;
            BigInteger q = rest.get(r)[j].divide(rest.get(r)[c]);
            for (BigInteger[] row : rest) {
              row[j] = row[j].subtract(q.multiply(row[c]));
            }
            if (rest.get(r)[j].signum() != 0) {
              for (BigInteger[] row : rest) {
                BigInteger held = row[j];
                row[j] = row[c];
                row[c] = held;
              }
            }
          }
        }
      }
      diagonal.add(rest.remove(r)[c].abs());
    }
    for (int i = 0; i < diagonal.size(); i++) {
      for (int j = i + 1; j < diagonal.size(); j++) {
        BigInteger g = diagonal.get(i).gcd(diagonal.get(j));
        BigInteger l = diagonal.get(i).multiply(diagonal.get(j)).divide(g);
        diagonal.set(i, g);
        diagonal.set(j, l);
      }
    }
    return diagonal;
  }

  int euler() {
    Bones b = Bones.of(now);
    int free = freeFaces(now);
    int faces = free + (4 * now.length - free) / 2;
    return 100 + (b.corners.classes().size() - b.edges.classes().size() + faces - now.length);
  }

  int alike() {
    return Collections.frequency(allRows(now), leastRow(now));
  }

  int doMove(int kind, int... a) {
    Object r = move(now, kind, a);
    if (r instanceof Integer) {
      return (Integer) r;
    }
    remember(now);
    now = (int[][][]) r;
    return now.length;
  }

  int two(int t, int f) {
    return doMove(0, t, f);
  }

  int three(int t, int u, int v) {
    return doMove(1, t, u, v);
  }

  int one(int t) {
    return doMove(2, t);
  }

  int four(int t, int v) {
    return doMove(3, t, v);
  }

  /** The steps of THE TEXT, or where a sign can't stand. */
  Object steps() {
    String in = text;
    text = "";
    List<int[]> all = new ArrayList<>();
    int p = 0;
    while (p < in.length()) {
      int kind = "fetp".indexOf(in.charAt(p));
      if (kind < 0) {
        return -1 - p;
      }
      int digits = new int[] {2, 3, 1, 2}[kind];
      int[] step = new int[1 + digits];
      step[0] = kind;
      for (int k = 1; k <= digits; k++) {
        if (p + k >= in.length() || in.charAt(p + k) < '0' || in.charAt(p + k) > '9') {
          return -1 - (p + k);
        }
        step[k] = in.charAt(p + k) - '0';
      }
      all.add(step);
      p += 1 + digits;
    }
    return all;
  }

  int trail() {
    Object in = steps();
    if (in instanceof Integer) {
      return (Integer) in;
    }
    int[][][] was = now;
    int done = 0;
    int failed = 0;
    for (Object step : (List<?>) in) {
      Object r = moveAt(now, (int[]) step);
      if (r instanceof Integer) {
        failed = 1;
        break;
      }
      now = (int[][][]) r;
      done++;
    }
    if (done > 0) {
      remember(was);
    }
    tell(failed, now.length);
    return done;
  }

  int tries() {
    Object in = steps();
    if (in instanceof Integer) {
      return (Integer) in;
    }
    int[][][] s = now;
    int done = 0;
    for (Object step : (List<?>) in) {
      Object r = moveAt(s, (int[]) step);
      if (r instanceof Integer) {
        break;
      }
      s = (int[][][]) r;
      done++;
    }
    tell(done, same(s, now) ? 1 : 0);
    return s.length;
  }

  int comes() {
    long[] many = new long[4];
    Set<String> all = new HashSet<>();
    for (int[] place : places(now)) {
      Object r = moveAt(now, place);
      if (!(r instanceof Integer)) {
        many[place[0]]++;
        all.add(show((int[][][]) r));
      }
    }
    tell(many);
    return all.size();
  }

  int leads(int i) {
    if (i < 0 || i > 1) {
      return -1;
    }
    if (kept[i] == null) {
      return -2;
    }
    for (int[] place : places(now)) {
      Object r = moveAt(now, place);
      if (!(r instanceof Integer) && same((int[][][]) r, kept[i])) {
        told = new ArrayList<>();
        for (int k = 1; k < place.length; k++) {
          told.add((long) place[k]);
        }
        return place[0];
      }
    }
    return -2;
  }

  int simpler() {
    int[][][] was = now;
    int done = 0;
    boolean more = true;
    while (more) {
      more = false;
      for (int kind : new int[] {3, 1}) {
        for (int[] place : places(now)) {
          if (!more && place[0] == kind) {
            Object r = moveAt(now, place);
            if (!(r instanceof Integer)) {
              now = (int[][][]) r;
              done++;
              more = true;
            }
          }
        }
      }
    }
    if (done > 0) {
      remember(was);
    }
    tell(done);
    return now.length;
  }

  int way(int i, int n, int most) {
    if (i < 0 || i > 1 || n < 1 || n > 30 || most < 1 || most > 8) {
      return -1;
    }
    if (kept[i] == null) {
      return -3;
    }
    LinkedHashSet<String> found = new LinkedHashSet<>();
    List<int[][][]> line = new ArrayList<>();
    List<Integer> far = new ArrayList<>();
    found.add(show(now));
    line.add(now);
    far.add(0);
    for (int h = 0; h < line.size() && line.size() < n; h++) {
      for (int[] place : places(line.get(h))) {
        Object r = moveAt(line.get(h), place);
        if (!(r instanceof Integer) && ((int[][][]) r).length <= most && line.size() < n && found.add(show((int[][][]) r))) {
          line.add((int[][][]) r);
          far.add(far.get(h) + 1);
        }
      }
    }
    for (int h = 0; h < line.size(); h++) {
      if (same(line.get(h), kept[i])) {
        tell(h + 1);
        return far.get(h);
      }
    }
    return -2;
  }

  long drawState;

  int draw(int n) {
    drawState = (drawState * 1103515245L + 12345L) & 0xffffffffL;
    return (int) (drawState / 65536 % n);
  }

  int drawn(int seed, int n) {
    if (n < 1 || n > 12) {
      return -1;
    }
    drawState = seed & 0xffffffffL;
    int[][][] s = now;
    int done = 0;
    for (int i = 0; i < n; i++) {
      int kind = draw(4);
      int[] a = new int[] {2, 3, 1, 2}[kind] == 1 ? new int[1] : new int[new int[] {2, 3, 1, 2}[kind]];
      for (int k = 0; k < a.length; k++) {
        a[k] = draw(k == 0 ? 8 : 4);
      }
      Object r = move(s, kind, a);
      if (!(r instanceof Integer)) {
        s = (int[][][]) r;
        done++;
      }
    }
    tell(done, Bones.of(s).isManifold() ? 1 : 0);
    return s.length;
  }

  int undo() {
    if (past.isEmpty()) {
      return -1;
    }
    now = past.removeLast();
    return past.size();
  }

  int heard(int what, int v) {
    int[] most = {48, 1, 1, 7, 1};
    if (what < 0 || what > 4 || v < 0 || v > most[what] || rumours.size() == 8) {
      return -1;
    }
    rumours.add(new int[] {what, v});
    return rumours.size();
  }

  int forget() {
    int n = rumours.size();
    rumours.clear();
    return n;
  }

  boolean fit(Bones b, List<String> e, int[] r) {
    switch (r[0]) {
      case 0:
        return e.size() >= r[1];
      case 1:
        return b.isFree(e) == (r[1] == 1);
      case 2:
        return b.isReversed(e) == (r[1] == 1);
      case 3:
        return e.stream().anyMatch(k -> k.charAt(0) == '0' + r[1]);
      default:
        String k = e.get(0);
        return b.corners.find(k.substring(0, 2)).equals(b.corners.find("" + k.charAt(0) + k.charAt(2))) == (r[1] == 1);
    }
  }

  int fits() {
    Bones b = Bones.of(now);
    told = new ArrayList<>();
    int n = 0;
    for (Map.Entry<String, List<String>> e : b.edges.classes().entrySet()) {
      if (rumours.stream().allMatch(r -> fit(b, e.getValue(), r))) {
        if (n == 0) {
          for (char c : e.getKey().toCharArray()) {
            told.add((long) (c - '0'));
          }
        }
        n++;
      }
    }
    return n;
  }

  boolean keep(int i) {
    if (i < 0 || i > 1) {
      return false;
    }
    kept[i] = now;
    return true;
  }

  boolean again(int i) {
    if (i < 0 || i > 1 || kept[i] == null) {
      return false;
    }
    now = kept[i];
    past.clear();
    return true;
  }

  int same(int i) {
    if (i < 0 || i > 1) {
      return -1;
    }
    if (kept[i] == null) {
      return -2;
    }
    tell(kept[i].length);
    return same(now, kept[i]) ? 1 : 0;
  }

  int count(int what) {
    switch (what) {
      case 0:
        return now.length;
      case 1:
        return freeFaces(now);
      case 2:
        return past.size();
      case 3:
        return rumours.size();
      case 4:
        return told.size();
      case 5:
        return text.length();
      default:
        return -1;
    }
  }

  long row(int i) {
    if (i < 0 || i >= told.size()) {
      throw new NoSuchElementException();
    }
    return told.get(i);
  }
}
