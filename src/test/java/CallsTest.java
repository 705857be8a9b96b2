import java.util.ArrayList;
import java.util.List;
import java.util.Random;

/**
 * Long runs of calls in any order, good ones and wrong ones, on a plane of a few places, against a
 * plain model: which call throws what, how many pieces there are, whether there is a result, and its area.
 */
public final class CallsTest {
  private static final int[] NUMBERS = {Integer.MIN_VALUE, -500000001, -500000000, -1, 0, 1, 2, 3, 4, 5, 500000000, 500000001, Integer.MAX_VALUE};

  private final Random random;
  private final int most;
  private final String run;
  private final RingWeaver w = new RingWeaver();
  /** x, y, toX, toY, marks. */
  private final List<long[]> pieces = new ArrayList<>();
  private boolean hasResult = false;
  private long area = 0;
  private int calls = 0;

  private CallsTest(int seed) {
    random = new Random(seed);
    most = 1 + random.nextInt(4);
    run = "run " + seed;
  }

  public static void main(String[] args) {
    for (int seed = 1; seed <= 2500; seed++) {
      CallsTest test = new CallsTest(seed);
      while (test.calls < 500) {
        test.someCalls();
      }
    }
    Checks.end("CallsTest");
  }

  private void someCalls() {
    int kind = random.nextInt(20);
    if (kind < 10) {
      triangle();
    } else if (kind < 12) {
      piece(near(), near(), near(), near(), 1 + random.nextInt(3));
    } else if (kind == 12) {
      piece(anyNumber(), anyNumber(), anyNumber(), anyNumber(), anyNumber());
    } else if (kind < 18) {
      overlay(random.nextInt(5));
    } else if (kind == 18) {
      overlay(anyNumber());
    } else if (random.nextInt(8) == 0) {
      Checks.due(run + ": clear", pieces.size(), w.clear());
      pieces.clear();
      dropResult();
      calls++;
    }
    look();
  }

  private int near() {
    return random.nextInt(2 * most + 1) - most;
  }

  private int anyNumber() {
    return random.nextInt(3) == 0 ? NUMBERS[random.nextInt(NUMBERS.length)] : near();
  }

  /** All three sides or none, so that drawings mostly stay closed. */
  private void triangle() {
    int[] p = {near(), near(), near(), near(), near(), near()};
    int marks = 1 + random.nextInt(3);
    int done = 0;
    boolean free = true;
    while (done < 3 && free) {
      free = piece(p[2 * done], p[2 * done + 1], p[(2 * done + 2) % 6], p[(2 * done + 3) % 6], marks);
      done += free ? 1 : 0;
    }
    for (int k = 0; k < done && !free; k++) {
      piece(p[2 * k], p[2 * k + 1], p[(2 * k + 2) % 6], p[(2 * k + 3) % 6], marks);
    }
  }

  private boolean piece(int x, int y, int toX, int toY, int marks) {
    calls++;
    Object got = Checks.piece(w, x, y, toX, toY, marks);
    String call = run + ", call " + calls + ": piece " + x + ", " + y + ", " + toX + ", " + toY + ", " + marks;
    if (!isPlace(x) || !isPlace(y) || !isPlace(toX) || !isPlace(toY) || x == toX && y == toY || marks < 1 || marks > 3) {
      Checks.due(call, Checks.IAE, got);
      return false;
    }
    long[] one = {x, y, toX, toY, marks};
    long[] known = null;
    boolean clashes = false;
    for (long[] other : pieces) {
      if (isSame(one, other)) {
        known = other;
      } else {
        clashes |= haveMoreInCommon(one, other);
      }
    }
    if (clashes) {
      Checks.due(call, Checks.ISE, got);
      return false;
    }
    if (known == null) {
      pieces.add(one);
    } else {
      known[4] ^= marks;
    }
    dropResult();
    Checks.due(call, pieces.size(), got);
    return true;
  }

  private static boolean isPlace(int x) {
    return Math.abs((long) x) <= 500000000;
  }

  private static boolean isSame(long[] a, long[] b) {
    return a[0] == b[0] && a[1] == b[1] && a[2] == b[2] && a[3] == b[3]
        || a[0] == b[2] && a[1] == b[3] && a[2] == b[0] && a[3] == b[1];
  }

  /** Where the lines meet, as shares t of a and u of b; of lines that are one, how far they lie over each other. */
  private static boolean haveMoreInCommon(long[] a, long[] b) {
    long ax = a[2] - a[0];
    long ay = a[3] - a[1];
    long bx = b[2] - b[0];
    long by = b[3] - b[1];
    long dx = b[0] - a[0];
    long dy = b[1] - a[1];
    long whole = ax * by - ay * bx;
    if (whole == 0) {
      if (ax * dy != ay * dx) {
        return false;
      }
      int way = ax != 0 ? 0 : 1;
      return Math.max(Math.min(a[way], a[way + 2]), Math.min(b[way], b[way + 2]))
          < Math.min(Math.max(a[way], a[way + 2]), Math.max(b[way], b[way + 2]));
    }
    long t = (dx * by - dy * bx) * Long.signum(whole);
    long u = (dx * ay - dy * ax) * Long.signum(whole);
    whole = Math.abs(whole);
    if (t < 0 || t > whole || u < 0 || u > whole) {
      return false;
    }
    return t != 0 && t != whole || u != 0 && u != whole;
  }

  private void overlay(int what) {
    calls++;
    Object got = Checks.overlay(w, what);
    String call = run + ", call " + calls + ": overlay " + what;
    dropResult();
    if (what < 0 || what > 4) {
      Checks.due(call, Checks.IAE, got);
    } else if (!isClosed(1) || !isClosed(2)) {
      Checks.due(call, Checks.ISE, got);
    } else {
      calls++;
      Checks.due(call, w.count(3), got);
      hasResult = true;
      area = areaOf(what);
    }
  }

  private boolean isClosed(int mark) {
    for (long[] p : pieces) {
      for (int end = 0; end < 4; end += 2) {
        int many = 0;
        for (long[] q : pieces) {
          boolean ends = q[0] == p[end] && q[1] == p[end + 1] || q[2] == p[end] && q[3] == p[end + 1];
          many += ends && (q[4] & mark) != 0 ? 1 : 0;
        }
        if (many % 2 != 0) {
          return false;
        }
      }
    }
    return true;
  }

  /** Upright strips, from one whole x to the next: in each, the pieces lie one above the other. */
  private long areaOf(int what) {
    double sum = 0;
    for (int x = -5; x < 5; x++) {
      List<double[]> over = new ArrayList<>();
      for (long[] p : pieces) {
        if (Math.min(p[0], p[2]) <= x && Math.max(p[0], p[2]) > x && p[4] != 0) {
          double slope = (double) (p[3] - p[1]) / (p[2] - p[0]);
          double left = p[1] + (x - p[0]) * slope;
          over.add(new double[] {left + left + slope, p[4]});
        }
      }
      over.sort((a, b) -> Double.compare(a[0], b[0]));
      int inside = 0;
      for (int i = 0; i + 1 < over.size(); i++) {
        inside ^= (int) over.get(i)[1];
        sum += isInResult(what, inside) ? over.get(i + 1)[0] - over.get(i)[0] : 0;
      }
    }
    return Math.round(sum);
  }

  private static boolean isInResult(int what, int inside) {
    boolean first = inside % 2 == 1;
    boolean second = inside / 2 == 1;
    boolean[] in = {first && second, first || second, first && !second, first ^ second, second && !first};
    return in[what];
  }

  private void dropResult() {
    hasResult = false;
    area = 0;
  }

  /** One look at a time, since it counts among the 512 calls of an object too. */
  private void look() {
    String when = run + ", behind call " + calls;
    calls += 3;
    switch (random.nextInt(6)) {
      case 0:
        Checks.due(when + ": pieces", pieces.size(), w.count(0));
        Checks.due(when + ": area", area, w.area());
        break;
      case 1:
        Checks.due(when + ": a result", hasResult, w.count(1) >= 2);
        Checks.due(when + ": plan 0", hasResult ? 6 : Checks.IOOBE, Checks.plan(w, 0));
        break;
      case 2:
        Checks.due(when + ": polygons", area > 0, w.count(3) > 0);
        Checks.due(when + ": plan 1", hasResult ? w.count(3) : Checks.IOOBE, Checks.plan(w, 1));
        break;
      case 3:
        Checks.due(when + ": corners", area > 0, w.count(2) >= 4);
        Checks.due(when + ": behind the corners", Checks.IOOBE, Checks.ordinate(w, w.count(2), random.nextInt(2)));
        break;
      case 4:
        Checks.due(when + ": behind the plan", Checks.IOOBE, Checks.plan(w, w.count(1)));
        break;
      default:
        lookAnywhere(when, anyNumber(), anyNumber());
    }
  }

  private void lookAnywhere(String when, int i, int what) {
    boolean isCorner = i >= 0 && i < w.count(2) && (what == 0 || what == 1);
    Checks.due(when + ": ordinate " + i + ", " + what, isCorner, !Checks.IOOBE.equals(Checks.ordinate(w, i, what)));
    Checks.due(when + ": count " + what, what < 0 || what > 3, w.count(what) == RingWeaver.NONE);
  }
}
