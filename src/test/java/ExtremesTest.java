import java.util.ArrayList;
import java.util.Arrays;
import java.util.List;

/**
 * All calls with all arguments that stand at or next to a bound, in every combination: none throws but as promised, and
 * each answers and leaves what the plain model does.
 */
public final class ExtremesTest {
  private static final Checks C = new Checks();
  private static final int LEAST = Integer.MIN_VALUE;
  private static final int MOST = Integer.MAX_VALUE;
  private static final int[] ONE = {
    LEAST, LEAST + 1, -65536, -256, -81, -33, -9, -2, -1, 0, 1, 2, 3, 4, 5, 6, 7, 8, 9, 12, 13, 29, 30, 31, 32, 33, 47, 48, 49, 64, 65, 76, 77,
    79, 80, 81, 127, 128, 255, 256, 32767, 32768, 65535, 65536, 1 << 26, 1 << 27, 1 << 28, 1 << 29, 1 << 30, MOST - 1, MOST,
  };
  private static final int[] FEW = {LEAST, -4, -1, 0, 1, 2, 3, 4, 7, 8, 1 << 28, 1 << 30, MOST};
  private static final int[] STEPS = {LEAST, -256, -1, 0, 1, 128, 255, 32768, 65536, 1 << 30, MOST};

  private final String start;
  private Both both;
  private String untouched;

  private ExtremesTest(String start) {
    this.start = start;
  }

  public static void main(String[] args) {
    for (String start : new String[] {"1", Left.FIVE, "2021a031a", "3021a032a132h", Left.LINE}) {
      C.begin("extremes of " + start);
      new ExtremesTest(start).all();
    }
    C.end("extremes");
  }

  private void all() {
    for (String name : "solid shows edges points manifold sides group euler alike trail tries comes simpler undo forget fits".split(" ")) {
      call(name);
    }
    for (String name : "sign end one leads keep again same count row".split(" ")) {
      for (int a : ONE) {
        call(name, a);
      }
    }
    for (String name : "point two four heard".split(" ")) {
      pairs(name, name.equals("heard") ? ONE : FEW);
    }
    for (int n : new int[] {LEAST, -1, 0, 1, 12, 13, MOST}) {
      for (int seed : ONE) {
        call("drawn", seed, n);
      }
    }
    for (String name : "glued degree three".split(" ")) {
      for (int a : FEW) {
        for (int b : FEW) {
          for (int c : FEW) {
            call(name, a, b, c);
          }
        }
      }
    }
    ways();
    sheets();
  }

  private void pairs(String name, int[] values) {
    for (int a : values) {
      for (int b : values) {
        call(name, a, b);
      }
    }
  }

  private void ways() {
    for (int i : new int[] {LEAST, -1, 0, 1, 2, MOST}) {
      for (int n : new int[] {LEAST, -1, 0, 1, 2, 6, 31, MOST}) {
        for (int most : new int[] {LEAST, -1, 0, 1, 3, 8, 9, MOST}) {
          call("way", i, n, most);
        }
      }
    }
  }

  private void sheets() {
    int faces = 4 * (start.charAt(0) - '0');
    for (int kind : new int[] {LEAST, -1, 0, 1, 2, 3, 4, MOST}) {
      for (int n : new int[] {LEAST, -1, 0, faces - 1, faces, 32, 33, MOST}) {
        for (int f : STEPS) {
          for (int step : STEPS) {
            call("sheet", kind, n, f, step);
          }
        }
      }
    }
  }

  /** Something of each kind is there: to undo, heard, kept under 0, a ROW, a text. */
  private void make() {
    both = new Both();
    for (String text : new String[] {Left.BALLS, start}) {
      List<Integer> signs = new ArrayList<>();
      for (int i = 0; i < text.length(); i += 4) {
        int v = 0;
        for (int k = 0; k < 4; k++) {
          v = v << 8 | (i + k < text.length() ? text.charAt(i + k) : 0);
        }
        signs.add(v);
      }
      for (int v : signs) {
        each("sign", v);
      }
      each("end", text.length());
      each("solid");
      if (text.equals(Left.BALLS)) {
        each("keep", 0);
      }
    }
    each("heard", 0, 1);
    each("manifold");
    each("sign", 0x74306630);
    each("sign", 0x30783030);
    untouched = held(true);
    C.due("they begin alike", held(false), untouched);
  }

  private void each(String name, int... a) {
    String want = both.answer(false, name, a);
    C.due(name + Arrays.toString(a), both.answer(true, name, a), want);
  }

  /** The ROW, the counts and how FACES are GLUED. */
  private String held(boolean real) {
    return both.answer(real, "count", 9);
  }

  private void call(String name, int... a) {
    if (both == null || !held(true).equals(untouched)) {
      make();
    }
    each(name, a);
    C.due("same(0) behind " + name + Arrays.toString(a), both.answer(true, "same", 0), both.answer(false, "same", 0));
    C.due("same(1) behind " + name + Arrays.toString(a), both.answer(true, "same", 1), both.answer(false, "same", 1));
    each("manifold");
    if (name.equals("keep") || name.equals("again")) {
      both = null;
    }
  }
}
