import java.util.ArrayList;
import java.util.Arrays;
import java.util.Collections;
import java.util.HashMap;
import java.util.HashSet;
import java.util.List;
import java.util.Map;
import java.util.Random;
import java.util.Set;
import java.util.TreeSet;

/**
 * Drawings made of the triangles of a net: squares with both diagonals, or triangles between places
 * that lie anyhow. Which triangles a result has, which of them hang together and what bounds them is
 * known without any geometry, and everything that is told is held against it.
 */
public final class CellsTest {
  private static int wide;
  private static int high;
  private static long[] px;
  private static long[] py;
  private static int[][] cells;
  private static Map<Long, int[]> cellsAtEdge;
  private static String where;

  public static void main(String[] args) {
    for (int seed = 1; seed <= 3000; seed++) {
      oneDrawing(new Random(seed), seed);
    }
    Checks.end("CellsTest");
  }

  private static void oneDrawing(Random random, int seed) {
    wide = 1 + random.nextInt(seed % 100 == 0 ? 12 : 6);
    high = 1 + random.nextInt(seed % 100 == 0 ? 12 : 6);
    if (seed % 2 == 0) {
      layNet(random);
    } else {
      layIrregularNet(random);
    }
    RingWeaver w = new RingWeaver();
    int rounds = 1 + random.nextInt(2);
    for (int round = 0; round < rounds; round++) {
      where = "seed " + seed + ", round " + round;
      if (round > 0 && random.nextBoolean()) {
        w.clear();
        marksNow.clear();
      }
      if (round == 0) {
        marksNow.clear();
      }
      boolean[] first = someCells(random);
      boolean[] second = someCells(random);
      draw(w, random, first, second);
      for (int what = 0; what <= 4; what++) {
        look(w, what, resultOf(what, first, second));
      }
    }
  }

  private static final Map<Long, Integer> marksNow = new HashMap<>();

  /** Places of the net under a straight map, so that the pieces lie in many directions. */
  private static void layNet(Random random) {
    int corners = (wide + 1) * (high + 1);
    px = new long[corners + wide * high];
    py = new long[px.length];
    long a;
    long b;
    long c;
    long d;
    long most = random.nextInt(4) == 0 ? 500000000L / (4 * Math.max(wide, high)) : 5;
    do {
      a = (long) (most * (2 * random.nextDouble() - 1));
      b = (long) (most * (2 * random.nextDouble() - 1));
      c = (long) (most * (2 * random.nextDouble() - 1));
      d = (long) (most * (2 * random.nextDouble() - 1));
      if (random.nextInt(3) == 0) {
        a = 1;
        b = 0;
        c = 0;
        d = 1;
      }
    } while (a * d == b * c);
    for (int y = 0; y <= high; y++) {
      for (int x = 0; x <= wide; x++) {
        place(y * (wide + 1) + x, 2 * x - wide, 2 * y - high, a, b, c, d);
        if (x < wide && y < high) {
          place(corners + y * wide + x, 2 * x + 1 - wide, 2 * y + 1 - high, a, b, c, d);
        }
      }
    }
    cells = new int[4 * wide * high][];
    cellsAtEdge = new HashMap<>();
    for (int y = 0; y < high; y++) {
      for (int x = 0; x < wide; x++) {
        int middle = corners + y * wide + x;
        int p = y * (wide + 1) + x;
        int[] round = {p, p + 1, p + wide + 2, p + wide + 1, p};
        for (int i = 0; i < 4; i++) {
          addCell(4 * (y * wide + x) + i, round[i], round[i + 1], middle);
        }
      }
    }
  }

  /** Places anywhere, and as many pieces between them as do not cross: what they leave are triangles. */
  private static void layIrregularNet(Random random) {
    do {
      scatterPlaces(random);
      boolean[][] joined = joinPlaces(random);
      cellsAtEdge = new HashMap<>();
      List<int[]> found = new ArrayList<>();
      for (int p = 0; p < px.length; p++) {
        for (int q = p + 1; q < px.length; q++) {
          for (int r = q + 1; r < px.length; r++) {
            if (joined[p][q] && joined[q][r] && joined[p][r] && isEmpty(p, q, r)) {
              found.add(new int[] {p, q, r});
            }
          }
        }
      }
      cells = new int[found.size()][];
      for (int i = 0; i < cells.length; i++) {
        addCell(i, found.get(i)[0], found.get(i)[1], found.get(i)[2]);
      }
    } while (cells.length == 0);
  }

  private static void scatterPlaces(Random random) {
    int most = random.nextInt(4) == 0 ? 500000000 : 2 + random.nextInt(4);
    Set<List<Integer>> places = new HashSet<>();
    int many = 4 + random.nextInt(16);
    for (int i = 0; i < many; i++) {
      places.add(Arrays.asList(random.nextInt(2 * most + 1) - most, random.nextInt(2 * most + 1) - most));
    }
    px = new long[places.size()];
    py = new long[places.size()];
    int at = 0;
    for (List<Integer> p : places) {
      px[at] = p.get(0);
      py[at++] = p.get(1);
    }
  }

  private static boolean[][] joinPlaces(Random random) {
    List<int[]> pairs = new ArrayList<>();
    for (int p = 0; p < px.length; p++) {
      for (int q = p + 1; q < px.length; q++) {
        pairs.add(new int[] {p, q});
      }
    }
    Collections.shuffle(pairs, random);
    boolean[][] joined = new boolean[px.length][px.length];
    List<int[]> taken = new ArrayList<>();
    for (int[] pair : pairs) {
      boolean free = placesAlong(px[pair[0]], py[pair[0]], px[pair[1]], py[pair[1]]).size() == 2;
      for (int[] other : taken) {
        free = free && !cross(pair, other);
      }
      if (free) {
        taken.add(pair);
        joined[pair[0]][pair[1]] = true;
      }
    }
    return joined;
  }

  private static int side(int p, int q, int r) {
    return Long.signum((px[q] - px[p]) * (py[r] - py[p]) - (py[q] - py[p]) * (px[r] - px[p]));
  }

  private static boolean cross(int[] a, int[] b) {
    return side(a[0], a[1], b[0]) * side(a[0], a[1], b[1]) < 0 && side(b[0], b[1], a[0]) * side(b[0], b[1], a[1]) < 0;
  }

  private static boolean isEmpty(int p, int q, int r) {
    int turn = side(p, q, r);
    for (int i = 0; i < px.length; i++) {
      if (i != p && i != q && i != r && side(p, q, i) == turn && side(q, r, i) == turn && side(r, p, i) == turn) {
        return false;
      }
    }
    return turn != 0;
  }

  private static void place(int i, long x, long y, long a, long b, long c, long d) {
    px[i] = a * x + b * y;
    py[i] = c * x + d * y;
  }

  private static void addCell(int cell, int p, int q, int r) {
    cells[cell] = new int[] {p, q, r};
    for (long e : edgesOf(cell)) {
      int[] at = cellsAtEdge.get(e);
      if (at == null) {
        cellsAtEdge.put(e, new int[] {cell, -1});
      } else {
        at[1] = cell;
      }
    }
  }

  private static long edge(int p, int q) {
    return p < q ? p * 100000L + q : q * 100000L + p;
  }

  private static long[] edgesOf(int cell) {
    int[] c = cells[cell];
    return new long[] {edge(c[0], c[1]), edge(c[1], c[2]), edge(c[2], c[0])};
  }

  private static boolean[] someCells(Random random) {
    boolean[] in = new boolean[cells.length];
    int kind = random.nextInt(5);
    double share = random.nextDouble();
    for (int i = 0; i < in.length; i++) {
      if (kind == 0) {
        in[i] = random.nextDouble() < share;
      } else if (kind == 1) {
        in[i] = (i / 4 + i / 4 / wide) % 2 == 0 || random.nextDouble() < share / 8;
      } else if (kind == 2) {
        in[i] = i % 2 == 0 || random.nextDouble() < share / 8;
      } else if (kind == 3) {
        in[i] = i % 4 == 0 ? random.nextDouble() < share : in[i - 1];
      } else {
        in[i] = random.nextDouble() < 0.93;
      }
    }
    return in;
  }

  private static void draw(RingWeaver w, Random random, boolean[] first, boolean[] second) {
    List<Long> edges = new ArrayList<>(new TreeSet<>(cellsAtEdge.keySet()));
    Collections.shuffle(edges, random);
    for (long e : edges) {
      int[] at = cellsAtEdge.get(e);
      int want = (first[at[0]] ? 1 : 0) ^ (second[at[0]] ? 2 : 0);
      if (at[1] >= 0) {
        want ^= (first[at[1]] ? 1 : 0) ^ (second[at[1]] ? 2 : 0);
      }
      int turn = want ^ marksNow.getOrDefault(e, 0);
      if (turn == 0 && random.nextInt(40) == 0) {
        tell(w, random, e, 3);
        turn = 3;
      }
      if (turn == 3 && random.nextBoolean()) {
        tell(w, random, e, 1);
        turn = 2;
      }
      if (turn != 0) {
        tell(w, random, e, turn);
      }
      if (turn != 0 || want != 0) {
        marksNow.put(e, want);
      }
    }
  }

  private static void tell(RingWeaver w, Random random, long e, int marks) {
    int p = (int) (e / 100000);
    int q = (int) (e % 100000);
    boolean back = random.nextBoolean();
    int from = back ? q : p;
    int to = back ? p : q;
    marksNow.putIfAbsent(e, 0);
    Checks.due(where + ": piece", marksNow.size(),
        Checks.answer(() -> w.piece((int) px[from], (int) py[from], (int) px[to], (int) py[to], marks)));
  }

  private static boolean[] resultOf(int what, boolean[] first, boolean[] second) {
    boolean[] in = new boolean[first.length];
    for (int i = 0; i < in.length; i++) {
      boolean a = first[i];
      boolean b = second[i];
      in[i] = what == 0 ? a && b : what == 1 ? a || b : what == 2 ? a && !b : what == 3 ? a != b : b && !a;
    }
    return in;
  }

  private static int[] partsOf(boolean[] in) {
    int[] part = new int[in.length];
    Arrays.fill(part, -1);
    int parts = 0;
    for (int i = 0; i < in.length; i++) {
      if (in[i] && part[i] < 0) {
        spread(in, part, i, parts++);
      }
    }
    return part;
  }

  private static void spread(boolean[] in, int[] part, int start, int number) {
    ArrayList<Integer> open = new ArrayList<>();
    open.add(start);
    part[start] = number;
    while (!open.isEmpty()) {
      int cell = open.remove(open.size() - 1);
      for (long e : edgesOf(cell)) {
        for (int other : cellsAtEdge.get(e)) {
          if (other >= 0 && in[other] && part[other] < 0) {
            part[other] = number;
            open.add(other);
          }
        }
      }
    }
  }

  private static void look(RingWeaver w, int what, boolean[] in) {
    String told = where + ", overlay " + what;
    int[] part = partsOf(in);
    int parts = Arrays.stream(part).max().orElse(-1) + 1;
    Object answer = Checks.answer(() -> w.overlay(what));
    Checks.due(told, parts, answer);
    if (!String.valueOf(parts).equals(String.valueOf(answer))) {
      return;
    }
    Checks.due(told + ": polygons", parts, w.count(3));
    Checks.due(told + ": area", areaOf(in), w.area());
    Set<Long> left = boundaryOf(in);
    Set<Integer> seenParts = new HashSet<>();
    int at = 0;
    int corner = 0;
    Checks.due(told + ": kind", 6, w.plan(at++));
    Checks.due(told + ": polygons in the plan", parts, w.plan(at++));
    long[] before = null;
    for (int i = 0; i < parts; i++) {
      Checks.due(told + ": kind of polygon", 3, w.plan(at++));
      List<long[]> rings = new ArrayList<>();
      int many = w.plan(at++);
      for (int r = 0; r < many; r++) {
        long[] ring = ringAt(w, corner, w.plan(at++));
        corner += ring.length / 2;
        lookAtRing(told, ring, r == 0, left);
        if (r > 1) {
          Checks.due(told + ": holes in order", true, comesBefore(rings.get(r - 1), ring));
        }
        rings.add(ring);
      }
      if (before != null) {
        Checks.due(told + ": polygons in order", true, comesBefore(before, rings.get(0)));
      }
      before = rings.get(0);
      seenParts.add(lookAtPolygon(told, rings, part));
    }
    Checks.due(told + ": numbers", at, w.count(1));
    Checks.due(told + ": corners", corner, w.count(2));
    Checks.due(told + ": each part once", parts, seenParts.size());
    Checks.due(told + ": boundary left over", 0, left.size());
  }

  private static long areaOf(boolean[] in) {
    long sum = 0;
    for (int i = 0; i < in.length; i++) {
      if (in[i]) {
        int[] c = cells[i];
        sum += Math.abs((px[c[1]] - px[c[0]]) * (py[c[2]] - py[c[0]]) - (py[c[1]] - py[c[0]]) * (px[c[2]] - px[c[0]]));
      }
    }
    return sum;
  }

  private static Set<Long> boundaryOf(boolean[] in) {
    Set<Long> edges = new HashSet<>();
    for (Map.Entry<Long, int[]> e : cellsAtEdge.entrySet()) {
      int[] at = e.getValue();
      if (in[at[0]] != (at[1] >= 0 && in[at[1]])) {
        edges.add(e.getKey());
      }
    }
    return edges;
  }

  private static long[] ringAt(RingWeaver w, int corner, int many) {
    long[] ring = new long[2 * many];
    for (int i = 0; i < many; i++) {
      ring[2 * i] = w.ordinate(corner + i, 0);
      ring[2 * i + 1] = w.ordinate(corner + i, 1);
    }
    return ring;
  }

  private static boolean isLess(long x, long y, long otherX, long otherY) {
    return x < otherX || x == otherX && y < otherY;
  }

  private static boolean comesBefore(long[] a, long[] b) {
    int i = a[0] == b[0] && a[1] == b[1] ? 2 : 0;
    return isLess(a[i], a[i + 1], b[i], b[i + 1]);
  }

  private static void lookAtRing(String told, long[] ring, boolean shell, Set<Long> left) {
    int many = ring.length / 2 - 1;
    Checks.due(told + ": corners of a ring", true, many >= 3);
    Checks.due(told + ": ends where it starts", true, ring[0] == ring[2 * many] && ring[1] == ring[2 * many + 1]);
    long twice = 0;
    Set<Integer> places = new HashSet<>();
    int steps = 0;
    for (int i = 0; i < many; i++) {
      int b = 2 * ((i + many - 1) % many);
      int c = 2 * i;
      int n = 2 * ((i + 1) % many);
      twice += ring[c] * ring[n + 1] - ring[n] * ring[c + 1];
      long bend = (ring[c] - ring[b]) * (ring[n + 1] - ring[c + 1]) - (ring[c + 1] - ring[b + 1]) * (ring[n] - ring[c]);
      Checks.due(told + ": a corner that is straight", false, bend == 0);
      if (i > 0) {
        Checks.due(told + ": the least first", true, isLess(ring[0], ring[1], ring[c], ring[c + 1]));
      }
      List<Integer> along = placesAlong(ring[c], ring[c + 1], ring[n], ring[n + 1]);
      for (int k = 0; k + 1 < along.size(); k++) {
        steps++;
        places.add(along.get(k));
        Checks.due(told + ": on the boundary, once", true, left.remove(edge(along.get(k), along.get(k + 1))));
      }
    }
    Checks.due(told + ": no place twice", steps, places.size());
    Checks.due(told + ": left round", shell, twice > 0);
  }

  private static List<Integer> placesAlong(long ax, long ay, long bx, long by) {
    List<Integer> along = new ArrayList<>();
    for (int i = 0; i < px.length; i++) {
      boolean on = (bx - ax) * (py[i] - ay) == (by - ay) * (px[i] - ax);
      if (on && between(ax, px[i], bx) && between(ay, py[i], by)) {
        along.add(i);
      }
    }
    along.sort((p, q) -> Long.compare(Math.abs(px[p] - ax) + Math.abs(py[p] - ay), Math.abs(px[q] - ax) + Math.abs(py[q] - ay)));
    return along;
  }

  private static boolean between(long a, long b, long c) {
    return Math.min(a, c) <= b && b <= Math.max(a, c);
  }

  /** The part that the polygon covers just so; -1 and a complaint if there is none. */
  private static int lookAtPolygon(String told, List<long[]> rings, int[] part) {
    boolean[] covered = new boolean[part.length];
    int found = -1;
    for (int i = 0; i < part.length; i++) {
      covered[i] = isInside(rings.get(0), i);
      for (int r = 1; r < rings.size(); r++) {
        covered[i] &= !isInside(rings.get(r), i);
      }
      if (covered[i]) {
        found = part[i];
      }
    }
    for (int i = 0; i < part.length; i++) {
      Checks.due(told + ": cell " + i + " covered", part[i] == found && found >= 0, covered[i]);
    }
    return found;
  }

  /** Whether the middle of a cell lies inside of a ring; doubles will do, since it is far from all pieces. */
  private static boolean isInside(long[] ring, int cell) {
    int[] c = cells[cell];
    double x = (px[c[0]] + px[c[1]] + px[c[2]]) / 3.0;
    double y = (py[c[0]] + py[c[1]] + py[c[2]]) / 3.0;
    double turned = 0;
    for (int i = 0; i + 3 < ring.length; i += 2) {
      double ax = ring[i] - x;
      double ay = ring[i + 1] - y;
      double bx = ring[i + 2] - x;
      double by = ring[i + 3] - y;
      turned += Math.atan2(ax * by - ay * bx, ax * bx + ay * by);
    }
    return Math.abs(turned) > Math.PI;
  }
}
