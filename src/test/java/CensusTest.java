import java.util.Map;
import java.util.Set;
import java.util.TreeMap;
import java.util.TreeSet;

/**
 * All ways to glue all FACES of one TET and of two TETS. Of these 4 and 17 different ones are closed manifolds: so many
 * are only told apart, and told alike, if the numbering and the manifold question are right. The two numbers are those of
 * published censuses as the writer remembers them (they could not be looked up here); the class came to them by itself.
 * The tables of groups were written down from the class's answers; each is asked of the plain model, too.
 */
public final class CensusTest {
  private static final Checks C = new Checks();
  private final GluedSolids x = new GluedSolids();
  private final Set<String> solids = new TreeSet<>();
  private final Map<String, Integer> groups = new TreeMap<>();

  public static void main(String[] args) {
    C.begin("one TET");
    CensusTest one = new CensusTest();
    one.glueOn(1, new boolean[4], new StringBuilder("1"));
    C.due("manifolds", one.solids.size(), 4);
    C.due("groups", one.groups, "{Z^0=2, Z^0 4=1, Z^0 5=1}");
    C.begin("two TETS");
    CensusTest two = new CensusTest();
    two.glueOn(2, new boolean[8], new StringBuilder("2"));
    C.due("manifolds", two.solids.size(), 17);
    C.due("groups", two.groups, "{Z^0=6, Z^0 2=2, Z^0 2 2=1, Z^0 3=3, Z^0 5=1, Z^0 7=1, Z^0 8=1, Z^1=1, Z^1 one-sided=1}");
    C.end("census");
  }

  private void glueOn(int tets, boolean[] used, StringBuilder text) {
    int face = 0;
    while (face < 4 * tets && used[face]) {
      face++;
    }
    if (face == 4 * tets) {
      look(text.toString());
      return;
    }
    used[face] = true;
    for (int other = face + 1; other < 4 * tets; other++) {
      if (used[other]) {
        continue;
      }
      used[other] = true;
      for (int p = 0; p < 24; p++) {
        if (PlainModel.PERMS.get(p)[face % 4] == other % 4) {
          int length = text.length();
          text.append(face / 4).append(face % 4).append(other / 4).append((char) ('a' + p));
          glueOn(tets, used, text);
          text.setLength(length);
        }
      }
      used[other] = false;
    }
    used[face] = false;
  }

  private void look(String text) {
    if (Checks.solid(x, text) < 0 || x.manifold() == 0 || !solids.add(Checks.shown(x))) {
      return;
    }
    String group = "Z^" + x.group() + (x.count(4) == 0 ? "" : " " + Checks.row(x));
    groups.merge(group + (x.sides() == 1 ? "" : " one-sided"), 1, Integer::sum);
    C.due("euler of " + text, x.euler(), 100);
    PlainModel m = new PlainModel();
    m.text = text;
    m.solid();
    String plain = "Z^" + m.group() + (m.told.isEmpty() ? "" : " " + m.told.toString().replaceAll("[\\[\\],]", ""));
    C.due("the plain model's group of " + text, group, plain);
    C.due("the plain model's manifold of " + text, m.manifold(), 1);
  }
}
