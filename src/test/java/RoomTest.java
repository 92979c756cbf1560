import java.lang.management.ManagementFactory;
import java.lang.reflect.Array;
import java.lang.reflect.Field;
import java.lang.reflect.Modifier;
import java.util.IdentityHashMap;
import java.util.Map;

/** What a run makes is made with the object: it is small, and calls make nothing. */
public final class RoomTest {
  private static final Checks C = new Checks();

  public static void main(String[] args) throws IllegalAccessException {
    C.begin("an object");
    Map<Object, Boolean> seen = new IdentityHashMap<>();
    long elements = weigh(new GluedSolids(), seen);
    C.due("objects and arrays below 150", seen.size() < 150, true);
    C.due("fields and elements below 5000", elements < 5000, true);

    C.begin("calls");
    com.sun.management.ThreadMXBean meter = (com.sun.management.ThreadMXBean) ManagementFactory.getThreadMXBean();
    long own = Thread.currentThread().getId();
    GluedSolids x = new GluedSolids();
    long sum = useAll(x);
    long before = meter.getThreadAllocatedBytes(own);
    for (int i = 0; i < 50; i++) {
      sum += useAll(x);
    }
    long bytes = meter.getThreadAllocatedBytes(own) - before;
    C.due("bytes made by 50 rounds of calls below 20000 (" + bytes + ")", bytes < 20000, true);
    C.due("calls were done", sum != 0, true);
    C.end("room");
  }

  private static long weigh(Object o, Map<Object, Boolean> seen) throws IllegalAccessException {
    if (o == null || seen.put(o, true) != null) {
      return 0;
    }
    long many = 0;
    Class<?> c = o.getClass();
    if (c.isArray()) {
      many += Array.getLength(o);
      for (int i = 0; i < Array.getLength(o) && !c.getComponentType().isPrimitive(); i++) {
        many += weigh(Array.get(o, i), seen);
      }
      return many;
    }
    for (Field f : c.getDeclaredFields()) {
      if (!Modifier.isStatic(f.getModifiers())) {
        many++;
        f.setAccessible(true);
        many += f.getType().isPrimitive() ? 0 : weigh(f.get(o), seen);
      }
    }
    return many;
  }

  /** Every call that does not throw, on a solid of a few TETS. */
  private static long useAll(GluedSolids x) {
    x.end(0);
    long sum = x.sign(0x32303031) + x.sign(0x61303131) + x.sign(0x71303231) + x.sign(0x78303331) + x.sign(0x68000000);
    x.end(17);
    sum += x.solid();
    x.keep(0);
    sum += x.two(0, 0) + x.two(1, 1) + x.one(0) + x.four(0, 0) + x.three(0, 0, 1);
    sum += x.edges() + x.points() + x.manifold() + x.sides() + x.group() + x.euler() + x.alike() + x.shows();
    sum += x.degree(0, 0, 1) + x.point(0, 0) + x.glued(0, 0, 0) + x.comes() + x.leads(0) + x.way(0, 30, 8) + x.drawn(5, 12);
    x.sign(0x66303074);
    x.sign(0x30000000);
    x.end(5);
    sum += x.tries() + x.trail() + x.simpler() + x.undo() + x.sheet(2, 32, 0, 0);
    sum += x.heard(0, 1) + x.fits() + x.forget() + x.same(0) + x.count(4) + x.row(0);
    x.again(0);
    return sum;
  }
}
