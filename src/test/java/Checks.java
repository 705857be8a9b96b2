import java.util.concurrent.Callable;

/** What the tests share: calls with the answers that are due, and drawings told briefly. */
final class Checks {
  static final String IAE = "IllegalArgumentException";
  static final String ISE = "IllegalStateException";
  static final String UOE = "UnsupportedOperationException";
  static final String IOOBE = "IndexOutOfBoundsException";
  static final int FAR = 500000000;

  private static int wrong = 0;
  private static int asked = 0;

  private Checks() {
  }

  static void due(String call, Object want, Object got) {
    asked++;
    if (!String.valueOf(want).equals(String.valueOf(got))) {
      wrong++;
      if (wrong <= 40) {
        System.out.println(call + " answered " + got + ", due is " + want);
      }
    }
  }

  /** The answer of a call, or the name of what it throws. */
  static Object answer(Callable<?> call) {
    try {
      return call.call();
    } catch (Exception e) {
      return e.getClass().getSimpleName();
    }
  }

  static Object piece(RingWeaver w, int x, int y, int toX, int toY, int marks) {
    return answer(() -> w.piece(x, y, toX, toY, marks));
  }

  static Object overlay(RingWeaver w, int what) {
    return answer(() -> w.overlay(what));
  }

  static Object plan(RingWeaver w, int i) {
    return answer(() -> w.plan(i));
  }

  static Object ordinate(RingWeaver w, int i, int what) {
    return answer(() -> w.ordinate(i, what));
  }

  /** Without a result there is nothing to be told, which an empty result (6, 0) does not do. */
  static void noResult(String when, RingWeaver w) {
    due(when + ": plan numbers", 0, w.count(1));
    due(when + ": corners", 0, w.count(2));
    due(when + ": polygons", 0, w.count(3));
    due(when + ": area", 0L, w.area());
    due(when + ": plan(0)", IOOBE, plan(w, 0));
    due(when + ": ordinate(0, 0)", IOOBE, ordinate(w, 0, 0));
    due(when + ": ordinate(0, 1)", IOOBE, ordinate(w, 0, 1));
  }

  static void end(String test) {
    System.out.println(test + ": " + asked + " answers looked at, " + wrong + " wrong");
    System.exit(wrong == 0 && asked > 0 ? 0 : 1);
  }

  /** A closed line of pieces through the places x, y, x, y .. */
  static RingWeaver line(RingWeaver w, int marks, int... places) {
    for (int i = 0; i + 1 < places.length; i += 2) {
      int j = (i + 2) % places.length;
      w.piece(places[i], places[i + 1], places[j], places[j + 1], marks);
    }
    return w;
  }

  /** A square's sides, as pieces of length 1 so that squares that lie side by side can be turned off together. */
  static RingWeaver square(RingWeaver w, int marks, int x, int y, int size) {
    for (int i = 0; i < size; i++) {
      w.piece(x + i, y, x + i + 1, y, marks);
      w.piece(x + i, y + size, x + i + 1, y + size, marks);
      w.piece(x, y + i, x, y + i + 1, marks);
      w.piece(x + size, y + i, x + size, y + i + 1, marks);
    }
    return w;
  }

  static String told(RingWeaver w) {
    StringBuilder s = new StringBuilder();
    for (int i = 0; i < w.count(1); i++) {
      s.append(i == 0 ? "" : " ").append(w.plan(i));
    }
    s.append(" |");
    for (int i = 0; i < w.count(2); i++) {
      s.append(' ').append(w.ordinate(i, 0)).append(',').append(w.ordinate(i, 1));
    }
    return s.toString();
  }

  /** Plan, corners and area at once, behind the overlay that makes them. */
  static String overlaid(RingWeaver w, int what) {
    int polygons = w.overlay(what);
    return polygons + " | " + told(w) + " | " + w.area();
  }
}
