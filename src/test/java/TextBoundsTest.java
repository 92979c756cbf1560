import java.util.Arrays;

/** Promises 1 to 7: each sentence that names a bound, an empty or a full thing, a wrap-around or a refusal, at it and next to it. */
public final class TextBoundsTest {
  private static final Checks C = new Checks();
  private static final int LEAST = Integer.MIN_VALUE;
  private static final int MOST = Integer.MAX_VALUE;

  public static void main(String[] args) {
    newObject();
    sign();
    signsOfAnyByte();
    end();
    solidOfHowManyTets();
    solidBySign();
    solidThatIsGluedAlready();
    solidThatEndsTooEarly();
    solidApart();
    solidFullOfSigns();
    solidLeaves();
    glued();
    shows();
    sheetRefused();
    sheetOfNEntries();
    sheetOfBytesShortsAndInts();
    sheetLeaves();
    C.end("bounds of texts");
  }

  private static void newObject() {
    C.begin("1 a new object");
    GluedSolids x = new GluedSolids();
    C.due("TETS", x.count(0), 1);
    C.due("FACES that are free", x.count(1), 4);
    for (int what = 2; what < 6; what++) {
      C.due("count(" + what + ")", x.count(what), 0);
    }
    for (int f = 0; f < 4; f++) {
      for (int what = 0; what < 3; what++) {
        C.due("glued(0, " + f + ", " + what + ")", Checks.glued(x, 0, f, what), -1);
      }
    }
    C.due("no ROW", Checks.rowAt(x, 0), "none");
    C.due("nothing to undo", x.undo(), -1);
    C.due("nothing kept", x.same(0) + " " + x.same(1) + " " + x.again(0) + " " + x.again(1), "-2 -2 false false");
    C.due("nothing heard", x.forget(), 0);
    C.due("an empty text as a trail", x.trail() + " " + Checks.row(x) + " " + x.count(2), "0 0 1 0");
    C.due("an empty text as a solid", x.solid(), -1);
    C.due("shown", Checks.shown(x), "1");
    GluedSolids y = new GluedSolids();
    y.one(0);
    y.keep(0);
    C.due("another object has nothing of it", new GluedSolids().same(0) + " " + new GluedSolids().count(0), "-2 1");
  }

  private static void sign() {
    C.begin("2 sign");
    for (int length = 0; length <= 80; length++) {
      int had = length;
      Left.Calls made = x -> {
        Checks.solid(x, Left.BALLS);
        x.edges();
        Checks.write(x, "t9".repeat(40).substring(0, had));
        return had + " signs";
      };
      if (length <= 76) {
        GluedSolids x = Left.made(made);
        C.due("with " + length + " signs", x.sign(0x74397439) + " " + x.count(5), (length + 4) + " " + (length + 4));
        C.due("the ROW stays", Checks.row(x), "2 6 2 6 0");
      } else {
        Left.all(C, "there would be " + (length + 4), made, x -> x.sign(0x74397439), -1);
      }
    }
    for (int v : new int[] {0, -1, LEAST, MOST}) {
      GluedSolids x = new GluedSolids();
      C.due("any int: " + v, x.sign(v) + " " + x.count(5), "4 4");
      Left.all(C, "any int, too many: " + v, Left::full, y -> y.sign(v), -1);
    }
    GluedSolids x = new GluedSolids();
    x.sign(0x74397439);
    x.end(0);
    C.due("behind an empty text again", x.sign(0), 4);
  }

  /** The sign at p is the byte p of the ints, highest first, without sign: a digit's byte with its highest bit set is no digit. */
  private static void signsOfAnyByte() {
    C.begin("2 sign, its bytes");
    String good = Left.BALLS + "   ";
    for (int p = 0; p < 17; p++) {
      for (int bit = 0; bit < 8; bit++) {
        GluedSolids x = new GluedSolids();
        for (int i = 0; i < 20; i += 4) {
          int v = 0;
          for (int k = 0; k < 4; k++) {
            int sign = good.charAt(i + k) ^ (i + k == p ? 1 << bit : 0);
            v |= sign << 24 - 8 * k;
          }
          x.sign(v);
        }
        x.end(17);
        PlainModel m = new PlainModel();
        m.text = good.substring(0, p) + (char) (good.charAt(p) ^ 1 << bit) + good.substring(p + 1, 17);
        C.due("bit " + bit + " of sign " + p + " the other way", x.solid(), m.solid());
        C.due("the highest bit", bit < 7 || x.count(2) == 0, true);
      }
    }
    C.due("'1' and 128", solidOfInt(0xB1000000, 1), -1);
    C.due("'1'", solidOfInt(0x31000000, 1), 1);
    C.due("'1' and three signs that are 0", solidOfInt(0x31000000, 2), -2);
    C.due("lowest byte last", solidOfInt(0x00000031, 4), -1);
    C.due("'a' and 256", trailOfInt(0x74300000, 2) + " " + trailOfInt(0xF4300000, 2), "1 -1");
  }

  private static int solidOfInt(int v, int signs) {
    GluedSolids x = new GluedSolids();
    x.sign(v);
    x.end(signs);
    return x.solid();
  }

  private static int trailOfInt(int v, int signs) {
    GluedSolids x = new GluedSolids();
    x.sign(v);
    x.end(signs);
    return x.trail();
  }

  private static void end() {
    C.begin("3 end");
    for (int length : new int[] {0, 1, 4, 17, 79, 80}) {
      Left.Calls made = x -> {
        x.one(0);
        x.points();
        Checks.write(x, "t9".repeat(40).substring(0, length));
        return length + " signs";
      };
      for (int n : new int[] {-1, LEAST, length + 1, 81, 84, MOST, length - 256, length + (1 << 16)}) {
        if (n < 0 || n > length) {
          Left.all(C, "end(" + n + ")", made, x -> x.end(n), false);
        }
      }
      Left.all(C, "all its signs", made, x -> x.end(length), true);
      GluedSolids x = Left.made(made);
      C.due("none of its signs", x.end(0) + " " + x.count(5) + " " + x.end(1), "true 0 false");
      if (length > 0) {
        GluedSolids y = Left.made(made);
        C.due("all but one of its signs", y.end(length - 1) + " " + y.count(5) + " " + y.end(length), "true " + (length - 1) + " false");
        C.due("the ROW stays", Checks.row(y), "1 1");
      }
    }
    for (int n = 0; n <= 17; n++) {
      GluedSolids x = new GluedSolids();
      Checks.write(x, Left.BALLS);
      x.end(n);
      GluedSolids y = new GluedSolids();
      C.due("its first " + n + " signs alone", x.solid(), n == 17 ? 2 : Checks.solid(y, Left.BALLS.substring(0, n)));
    }
    GluedSolids x = new GluedSolids();
    Checks.write(x, "2001aXYZ");
    x.end(5);
    x.sign(0x30313161);
    C.due("signs come behind what is left", x.solid() + " " + x.count(1), "2 4");
  }

  private static void solidOfHowManyTets() {
    C.begin("4 solid, how many TETS");
    for (char c = 0; c < 256; c++) {
      boolean isDigit = c >= '1' && c <= '8';
      GluedSolids x = new GluedSolids();
      C.due("one sign, " + (int) c, Checks.solid(x, "" + c), !isDigit ? -1 : c == '1' ? 1 : -200);
    }
    for (int tets = 1; tets <= 8; tets++) {
      String text = tets + Left.LINE.substring(1, 4 * tets - 3);
      GluedSolids x = new GluedSolids();
      C.due("solid of " + text, Checks.solid(x, text) + " " + x.count(0) + " " + x.count(1) + " " + x.count(2), tets + " " + tets + " " + (2 * tets + 2) + " 1");
      int p = text.length();
      C.due("a TET that there is", Checks.solid(x, text + (tets - 1) + "4"), -1 - (p + 1));
      C.due("a TET that there is not", Checks.solid(x, text + tets + "4"), -1 - p);
      C.due("one to glue to", Checks.solid(x, text + "02" + (tets - 1) + "y"), -1 - (p + 3));
      C.due("one that there is not", Checks.solid(x, text + "02" + tets + "y"), -1 - (p + 2));
    }
  }

  /** Every sign at every place behind "2" of a text of one pair. */
  private static void solidBySign() {
    C.begin("4 solid, by sign");
    for (char c = 0; c < 256; c++) {
      String name = "sign " + (int) c;
      boolean isTet = c == '0' || c == '1';
      C.due(name + " as a TET", Checks.solid(new GluedSolids(), "2" + c), isTet ? -3 : -2);
      C.due(name + " as a FACE", Checks.solid(new GluedSolids(), "20" + c), c >= '0' && c <= '3' ? -4 : -3);
      C.due(name + " as a TET to glue to", Checks.solid(new GluedSolids(), "200" + c), isTet ? -5 : -4);
      C.due(name + " as a letter", Checks.solid(new GluedSolids(), "2001" + c), c >= 'a' && c <= 'x' ? 2 : -5);
    }
  }

  private static void solidThatIsGluedAlready() {
    C.begin("4 solid, GLUED already");
    for (int f = 0; f < 4; f++) {
      for (int p = 0; p < 24; p++) {
        int to = PlainModel.PERMS.get(p)[f];
        String text = "10" + f + "0" + (char) ('a' + p);
        C.due("itself: " + text, Checks.solid(new GluedSolids(), text), to == f ? -5 : 1);
        if (to != f) {
          for (int g = 0; g < 4; g++) {
            C.due("then FACE " + g, Checks.solid(new GluedSolids(), text + "0" + g), g == f || g == to ? -7 : -8);
          }
          int left = 6 - f - to;
          int one = Math.max(0, Math.min(3, firstBut(f, to)));
          for (int q = 0; q < 24; q++) {
            int other = PlainModel.PERMS.get(q)[one];
            C.due("then letter " + q + " of FACE " + one, Checks.solid(new GluedSolids(), text + "0" + one + "0" + (char) ('a' + q)),
                other == left - one ? 1 : -9);
          }
        }
      }
    }
    C.due("a FACE of the other TET, GLUED already", Checks.solid(new GluedSolids(), "2001a1"), -7);
    C.due("and one that is not", Checks.solid(new GluedSolids(), "2001a11"), -8);
    C.due("a FACE of it, the same letter", Checks.solid(new GluedSolids(), "2001a10"), -7);
    C.due("a letter that tells a FACE of the other that is GLUED", Checks.solid(new GluedSolids(), "2001a011g"), -9);
    C.due("and one that is not", Checks.solid(new GluedSolids(), "2001a011a"), 2);
  }

  private static int firstBut(int f, int g) {
    for (int i = 0; i < 4; i++) {
      if (i != f && i != g) {
        return i;
      }
    }
    return -1;
  }

  private static void solidThatEndsTooEarly() {
    C.begin("4 solid, too early");
    for (int n = 0; n <= 65; n++) {
      String text = Left.ONE_EDGE.substring(0, n);
      boolean isWhole = n % 4 == 1;
      GluedSolids x = new GluedSolids();
      // It is as THE SOLID shows it: TETS are named for the first time from lesser ones, 7 last.
      int whole = text.indexOf('7') > 0 ? 8 : -200;
      C.due("solid of " + text, Checks.solid(x, text), isWhole ? whole : -1 - n);
    }
  }

  private static void solidApart() {
    C.begin("4 solid, apart");
    String[] apart = {"2", "8", "2000g", "2000g020b101g121b", "3001a", "4001a203a", Left.LINE.substring(0, 25), "8112a223a304a415a526a637a"};
    for (String text : apart) {
      Left.allButText(C, "solid of " + text, x -> writeBehindSome(x, text), GluedSolids::solid, -200);
    }
    C.due("the sign first", Checks.solid(new GluedSolids(), "2000g0"), -7);
    C.due("the end first", Checks.solid(new GluedSolids(), "20"), -3);
    C.due("the letter first", Checks.solid(new GluedSolids(), "3001aXXXX"), -6);
    C.due("the latest pair holds them together", Checks.solid(new GluedSolids(), "4001a203a112a"), 4);
  }

  private static void solidFullOfSigns() {
    C.begin("4 solid, full");
    GluedSolids x = new GluedSolids();
    C.due("65 signs", Checks.solid(x, Left.ONE_EDGE) + " " + x.count(1), "8 0");
    C.due("no FACE is left", Checks.solid(x, Left.ONE_EDGE + "0"), -67);
    C.due("no FACE is left, and more signs", Checks.solid(x, Left.ONE_EDGE + "001a"), -67);
    C.due("80 signs", Checks.solid(x, Left.ONE_EDGE + "73".repeat(7) + "0"), -67);
    C.due("80 signs, no TET behind", Checks.solid(x, Left.ONE_EDGE + "8".repeat(15)), -66);
    Left.allButText(C, "80 signs", Left::full, GluedSolids::solid, -1);
  }

  private static Object writeBehindSome(GluedSolids x, String text) {
    Left.some(x);
    Checks.write(x, text);
    return text;
  }

  private static void solidLeaves() {
    C.begin("4 solid, what it leaves");
    for (String text : new String[] {"", "0", "9", "2008", "2004a", "2001y", "2001", "1000g01", "1000a", "2001a0"}) {
      int answer = Checks.solid(new GluedSolids(), text);
      C.due("refused: " + text, answer < 0, true);
      Left.allButText(C, "refused: " + text, x -> writeBehindSome(x, text), GluedSolids::solid, answer);
      Left.allButText(C, "refused, full: " + text, x -> {
        Left.full(x);
        Checks.write(x, text);
        return text;
      }, GluedSolids::solid, answer);
    }
    GluedSolids x = Left.made(Left::some);
    C.due("done", Checks.solid(x, Left.FIVE) + " " + x.count(5) + " " + x.count(2) + " " + x.count(3), "1 0 4 2");
    C.due("the ROW stays", x.count(4), 5);
    C.due("kept stays", x.same(0) + " " + x.same(1), "1 -2");
    C.due("undone", x.undo() + " " + x.count(0), "3 3");
    GluedSolids y = Left.made(Left::full);
    C.due("done, full", Checks.solid(y, Left.BALLS) + " " + y.count(2) + " " + y.count(3) + " " + y.count(4), "2 8 8 65");
    C.due("undone, full", y.undo() + " " + Checks.shown(y), "7 " + Left.ONE_EDGE);
    GluedSolids z = new GluedSolids();
    C.due("as it is already", Checks.solid(z, "1") + " " + z.count(2) + " " + z.undo() + " " + z.count(2), "1 1 0 0");
  }

  private static void glued() {
    C.begin("5 glued");
    for (Left.Calls made : Arrays.<Left.Calls>asList(Left::fresh, Left::some, Left::full)) {
      int tets = Left.made(made).count(0);
      for (int tet : new int[] {LEAST, -1, 0, tets - 1, tets, 8, MOST, 1 << 30, tets + (1 << 30)}) {
        for (int f : new int[] {LEAST, -1, 0, 3, 4, MOST}) {
          for (int what : new int[] {LEAST, -1, 0, 1, 2, 3, MOST}) {
            boolean isNone = tet < 0 || tet >= tets || f < 0 || f > 3 || what < 0 || what > 2;
            String name = "glued(" + tet + ", " + f + ", " + what + ")";
            C.due(name + " of " + tets, Checks.glued(Left.made(made), tet, f, what).equals("none"), isNone);
          }
        }
      }
      Left.all(C, "none such", made, x -> Checks.glued(x, tets, 0, 0), "none");
      Left.all(C, "another what", made, x -> Checks.glued(x, 0, 0, 3), "none");
      Left.all(C, "another FACE", made, x -> Checks.glued(x, 0, 4, 0), "none");
      String first = Checks.glued(Left.made(made), 0, 0, 0);
      Left.all(C, "one that there is", made, x -> Checks.glued(x, 0, 0, 0), first);
    }
    C.due("of the last TET, the last FACE", Checks.glued(Checks.solidOf(Left.ONE_EDGE), 7, 3, 0) + Checks.glued(Checks.solidOf("1000g020b"), 0, 3, 2), "32");
    C.due("letters a and x", Checks.glued(Checks.solidOf("2001a"), 0, 3, 1) + " " + Checks.glued(Checks.solidOf("2001a011q021x031h"), 0, 2, 1), "0 23");
  }

  private static void shows() {
    C.begin("6 shows");
    C.due("no FACE GLUED", new GluedSolids().shows(), 1);
    C.due("one pair", Checks.solidOf("1000g").shows() + " " + Checks.solidOf("2011q").shows(), "5 5");
    C.due("all FACES of all TETS", Checks.solidOf(Left.ONE_EDGE).shows(), 65);
    Left.allButRow(C, "shows", Left::fresh, GluedSolids::shows, 1, "49");
    Left.allButRow(C, "shows", Left::some, GluedSolids::shows, 25, codes(Checks.shown(Left.made(Left::some))));
    Left.allButRow(C, "shows", Left::full, GluedSolids::shows, 65, codes(Left.ONE_EDGE));
    for (String text : new String[] {"1", "1000g", "2001a", "2011q", Left.BALLS, Left.FIVE, Left.LINE, Left.ONE_EDGE}) {
      GluedSolids x = Checks.solidOf(text);
      String shown = Checks.shown(x);
      x.keep(0);
      C.due("as often as there are pairs: " + shown, shown.length(), 1 + 4 * (4 * x.count(0) - x.count(1)) / 2);
      C.due("solid() reads " + shown, Checks.solid(x, shown) + " " + x.same(0), shown.charAt(0) + " 1");
      int before = -1;
      for (int i = 1; i < shown.length(); i += 4) {
        int face = 4 * (shown.charAt(i) - '0') + shown.charAt(i + 1) - '0';
        int tet = shown.charAt(i + 2) - '0';
        int there = 4 * tet + PlainModel.PERMS.get(shown.charAt(i + 3) - 'a')[face % 4];
        C.due("in order, by the lesser: " + shown, face > before && there > face, true);
        before = face;
      }
    }
  }

  private static String codes(String text) {
    StringBuilder b = new StringBuilder();
    for (char c : text.toCharArray()) {
      b.append(b.length() == 0 ? "" : " ").append((int) c);
    }
    return b.toString();
  }

  private static void sheetRefused() {
    C.begin("7 sheet, refused");
    for (Left.Calls made : Arrays.<Left.Calls>asList(Left::fresh, Left::some, Left::full)) {
      for (int kind : new int[] {LEAST, -1, 4, 5, 256, MOST}) {
        for (int n : new int[] {LEAST, -1, 0, 32, 33, MOST}) {
          Left.all(C, "sheet(" + kind + ", " + n + ")", made, x -> x.sheet(kind, n, -1, 0), -1);
        }
      }
      for (int n : new int[] {33, 34, 64, 256, MOST}) {
        for (int kind = 0; kind < 4; kind++) {
          int of = kind;
          Left.all(C, "sheet(" + kind + ", " + n + ")", made, x -> x.sheet(of, n, -1, 0), -1);
        }
      }
      for (int n : new int[] {LEAST, -33, -2, -1}) {
        for (int kind = 0; kind < 3; kind++) {
          int of = kind;
          Left.all(C, "sheet(" + kind + ", " + n + ")", made, x -> x.sheet(of, n, -1, 0), -2);
        }
      }
      for (int n : new int[] {LEAST, -1, 0, 1, 31, 32}) {
        Left.all(C, "sheet(3, " + n + ")", made, x -> x.sheet(3, n, 0, 0), -3);
      }
    }
    for (int kind = 0; kind < 3; kind++) {
      int of = kind;
      Left.all(C, "apart", Left::some, x -> x.sheet(of, 32, -1, 0), -4);
      Left.all(C, "apart, without entries", Left::some, x -> x.sheet(of, 0, 0, 0), -4);
      Left.all(C, "apart, full", Left::full, x -> x.sheet(of, 31, -1, 0), -4);
      Left.all(C, "nothing becomes free", Left::full, x -> x.sheet(of, 32, 0, 0), 0);
      Left.all(C, "no FACE is GLUED", Left::fresh, x -> x.sheet(of, 0, 0, 0), 4);
      Left.all(C, "no FACE is GLUED, below 0", Left::fresh, x -> x.sheet(of, 32, -1, 0), 4);
    }
  }

  /** n entries, all of them 0: FACES from n on become free, and those to which they are GLUED. */
  private static void sheetOfNEntries() {
    C.begin("7 sheet, n entries");
    for (String text : new String[] {"1", "1000g020b", Left.FIVE, Left.BALLS, Left.LINE, Left.ONE_EDGE}) {
      GluedSolids first = Checks.solidOf(text);
      int faces = 4 * first.count(0);
      String shown = Checks.shown(first);
      for (int n = 0; n <= 32; n++) {
        PlainModel m = new PlainModel();
        m.text = shown;
        m.solid();
        int want = m.sheet(2, n, 0, 0);
        for (int kind = 0; kind < 3; kind++) {
          GluedSolids x = Checks.solidOf(shown);
          C.due(n + " entries of " + shown, x.sheet(kind, n, 0, 0), want);
          C.due("what it is then", Checks.shown(x), PlainModel.show(m.now));
          if (n >= faces) {
            C.due("enough entries", want + " " + Checks.shown(x), first.count(1) + " " + shown);
          }
        }
      }
    }
    C.due("one TET hangs together without any", Checks.solidOf(Left.FIVE).sheet(0, 0, 0, 0), 4);
    C.due("the last entry is missing", Checks.solidOf(Left.FIVE).sheet(0, 3, 0, 0), 2);
    C.due("eight TETS, the last entry is missing", Checks.solidOf(Left.ONE_EDGE).sheet(0, 31, 0, 0), 2);
  }

  /** One entry again and again: all FACES stay or none does. */
  private static void sheetOfBytesShortsAndInts() {
    C.begin("7 sheet, wrapped around");
    int[] entries = {
      0, 1, 126, 127, 128, 129, 254, 255, 256, 257, 383, 384, 511, 512, -1, -2, -127, -128, -129, -130, -255, -256, -257,
      32766, 32767, 32768, 32769, 65534, 65535, 65536, 65537, 98303, 98304, -32767, -32768, -32769, -65535, -65536, -65537,
      MOST - 1, MOST, LEAST, LEAST + 1, 1 << 30, -(1 << 30),
    };
    for (int entry : entries) {
      int low = Math.floorMod(entry, 256);
      int lower = Math.floorMod(entry, 65536);
      C.due(entry + " as a byte", Checks.solidOf(Left.FIVE).sheet(0, 4, entry, 0), low > 127 ? 4 : 0);
      C.due(entry + " as a short", Checks.solidOf(Left.FIVE).sheet(1, 4, entry, 0), lower > 32767 ? 4 : 0);
      C.due(entry + " as an int", Checks.solidOf(Left.FIVE).sheet(2, 4, entry, 0), entry < 0 ? 4 : 0);
    }
    // FIVE is GLUED 0 to 1 and 2 to 3: two free FACES tell that just one of the pairs has an entry below 0.
    C.due("over the greatest int, at the last entry", Checks.solidOf(Left.FIVE).sheet(2, 4, MOST - 2, 1), 2);
    C.due("just not over it", Checks.solidOf(Left.FIVE).sheet(2, 4, MOST - 3, 1), 0);
    C.due("over it at the second entry", Checks.solidOf(Left.FIVE).sheet(2, 4, MOST, 1), 4);
    C.due("over the least int", Checks.solidOf(Left.FIVE).sheet(2, 4, LEAST + 1, -1), 2);
    C.due("just not over it", Checks.solidOf(Left.FIVE).sheet(2, 4, LEAST + 3, -1), 4);
    C.due("steps that go twice around", Checks.solidOf(Left.FIVE).sheet(2, 4, 0, 1 << 30), 2);
    C.due("steps of the least int", Checks.solidOf(Left.FIVE).sheet(2, 4, 0, LEAST) + " " + Checks.solidOf("1020b").sheet(2, 3, 0, LEAST), "4 4");
    C.due("over the greatest byte, at the last entry", Checks.solidOf(Left.FIVE).sheet(0, 4, 125, 1), 2);
    C.due("just not over it", Checks.solidOf(Left.FIVE).sheet(0, 4, 124, 1), 0);
    C.due("over the greatest short, at the last entry", Checks.solidOf(Left.FIVE).sheet(1, 4, 32765, 1), 2);
    C.due("just not over it", Checks.solidOf(Left.FIVE).sheet(1, 4, 32764, 1), 0);
    C.due("bytes of ints that wrap", Checks.solidOf(Left.FIVE).sheet(0, 4, MOST, 1), 2);
    C.due("0 is not below 0", Checks.solidOf(Left.FIVE).sheet(2, 4, 0, 0) + " " + Checks.solidOf(Left.FIVE).sheet(2, 4, -3, 1), "0 4");
    C.due("0 at the last pair", Checks.solidOf(Left.FIVE).sheet(2, 4, -2, 1) + " " + Checks.solidOf(Left.FIVE).sheet(2, 4, -1, 1), "2 2");
    C.due("at the one FACE of a pair", Checks.solidOf(Left.FIVE).sheet(2, 4, 2, -1) + " " + Checks.solidOf(Left.FIVE).sheet(2, 4, 3, -1), "2 0");
  }

  private static void sheetLeaves() {
    C.begin("7 sheet, what it leaves");
    GluedSolids x = Left.made(Left::some);
    String text = Checks.shown(x);
    x.undo();
    C.due("what there was", Checks.shown(x), Left.BALLS);
    x = Left.made(Left::some);
    C.due("done", x.sheet(2, 11, 0, 0) + " " + x.count(0) + " " + x.count(1), "2 3 2");
    C.due("the rest", x.count(2) + " " + x.count(3) + " " + Checks.row(x) + " " + x.count(5), "3 2 " + Checks.row(Left.made(Left::some)) + " 7");
    C.due("kept", x.same(0) + " " + x.same(1), "0 -2");
    C.due("it is another one", Checks.shown(x).equals(text), false);
    C.due("nothing of it is undone", x.undo() + " " + Checks.shown(x), "2 " + Left.BALLS);
    GluedSolids y = new GluedSolids();
    Checks.solid(y, Left.FIVE);
    y.keep(1);
    y.again(1);
    C.due("alone", y.sheet(0, 0, 0, 0) + " " + y.count(2) + " " + y.undo() + " " + y.count(1), "4 0 -1 4");
    C.due("what is kept is not touched", y.again(1) + " " + Checks.shown(y), "true " + Left.FIVE);
    GluedSolids z = Checks.solidOf("2001a011a");
    C.due("numbered anew", z.sheet(2, 8, -3, 1) + " " + Checks.shown(z), "6 2031a");
  }
}
