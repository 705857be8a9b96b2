/** The promises one by one: ordinary inputs, the edges that the document names, and wrong inputs. */
public final class PromisesTest {
  private static final String IAE = "IllegalArgumentException";
  private static final String ISE = "IllegalStateException";
  private static final String UOE = "UnsupportedOperationException";
  private static final String IOOBE = "IndexOutOfBoundsException";
  private static final int FAR = 500000000;
  private static final int[] ODD_NUMBERS = {Integer.MIN_VALUE, -FAR - 1, -5, -1, 4, 5, 2048, FAR + 1, Integer.MAX_VALUE};

  public static void main(String[] args) {
    newObject();
    pieceCountsAndTurns();
    pieceRefusesArguments();
    pieceRefusesWhatIsInTheWay();
    pieceDropsTheResult();
    pieceLimit();
    clear();
    overlayWhats();
    overlayRefuses();
    overlayLimits();
    insideAtHeights();
    rings();
    polygonsAndHoles();
    orderOfPolygonsAndHoles();
    farthest();
    plan();
    ordinate();
    area();
    count();
    Checks.end("PromisesTest");
  }

  private static Object piece(RingWeaver w, int x, int y, int toX, int toY, int marks) {
    return Checks.answer(() -> w.piece(x, y, toX, toY, marks));
  }

  private static Object overlay(RingWeaver w, int what) {
    return Checks.answer(() -> w.overlay(what));
  }

  private static void noResult(String when, RingWeaver w) {
    Checks.due(when + ": plan numbers", 0, w.count(1));
    Checks.due(when + ": corners", 0, w.count(2));
    Checks.due(when + ": polygons", 0, w.count(3));
    Checks.due(when + ": area", 0L, w.area());
    Checks.due(when + ": plan(0)", IOOBE, Checks.answer(() -> w.plan(0)));
    Checks.due(when + ": ordinate(0, 0)", IOOBE, Checks.answer(() -> w.ordinate(0, 0)));
  }

  private static void newObject() {
    RingWeaver w = new RingWeaver();
    Checks.due("new: pieces", 0, w.count(0));
    noResult("new", w);
    for (int what = 0; what <= 4; what++) {
      Checks.due("new: overlay " + what, "0 | 6 0 | | 0", Checks.overlaid(new RingWeaver(), what));
    }
    Checks.line(w, 1, 0, 0, 4, 0, 0, 4);
    Checks.due("another new one: pieces", 0, new RingWeaver().count(0));
  }

  private static void pieceCountsAndTurns() {
    RingWeaver w = new RingWeaver();
    Checks.due("first piece", 1, piece(w, 0, 0, 4, 0, 1));
    Checks.due("second piece", 2, piece(w, 4, 0, 0, 4, 1));
    Checks.due("third piece", 3, piece(w, 0, 4, 0, 0, 1));
    Checks.due("triangle", "1 | 6 1 3 1 4 | 0,0 4,0 0,4 0,0 | 16", Checks.overlaid(w, 1));
    Checks.due("a mark more, from the other end", 3, piece(w, 4, 0, 0, 0, 2));
    Checks.due("second drawing open", ISE, overlay(w, 1));
    Checks.due("the rest of both marks turned", 3, piece(w, 0, 4, 4, 0, 3));
    Checks.due("first drawing open now", ISE, overlay(w, 1));
    Checks.due("both marks turned", 3, piece(w, 0, 0, 0, 4, 3));
    Checks.due("and here", 3, piece(w, 0, 0, 4, 0, 1));
    Checks.due("the triangle is the second drawing's now", "1 | 6 1 3 1 4 | 0,0 4,0 0,4 0,0 | 16", Checks.overlaid(w, 4));
    Checks.due("and not the first's", "0 | 6 0 | | 0", Checks.overlaid(w, 2));
    Checks.line(w, 2, 0, 0, 4, 0, 0, 4);
    Checks.due("pieces without marks stay", 3, w.count(0));
    Checks.due("and bound nothing", "0 | 6 0 | | 0", Checks.overlaid(w, 3));
    Checks.due("but are in the way", ISE, piece(w, 1, -1, 1, 1, 1));
  }

  private static void pieceRefusesArguments() {
    RingWeaver w = Checks.line(new RingWeaver(), 1, 0, 0, 4, 0, 0, 4);
    for (int bad : new int[] {FAR + 1, -FAR - 1, Integer.MAX_VALUE, Integer.MIN_VALUE}) {
      Checks.due("x " + bad, IAE, piece(w, bad, 0, 1, 1, 1));
      Checks.due("y " + bad, IAE, piece(w, 0, bad, 1, 1, 1));
      Checks.due("toX " + bad, IAE, piece(w, 0, 0, bad, 1, 1));
      Checks.due("toY " + bad, IAE, piece(w, 0, 0, 1, bad, 1));
    }
    for (int marks : new int[] {0, 4, 5, 7, -1, Integer.MIN_VALUE, Integer.MAX_VALUE}) {
      Checks.due("marks " + marks, IAE, piece(w, 10, 10, 11, 11, marks));
      Checks.due("of a piece that is there, marks " + marks, IAE, piece(w, 0, 0, 4, 0, marks));
    }
    Checks.due("both alike", IAE, piece(w, 9, 9, 9, 9, 1));
    Checks.due("both alike within a piece: the argument first", IAE, piece(w, 1, 0, 1, 0, 1));
    Checks.due("across a piece with wrong marks: the argument first", IAE, piece(w, 1, -1, 1, 1, 0));
    Checks.due("nothing came of it", 3, w.count(0));
    Checks.due("the corners of the plane", 4, piece(w, -FAR, -FAR, -FAR, FAR, 3));
    Checks.due("the other ones", 5, piece(w, FAR, FAR, FAR, -FAR, 3));
  }

  private static void pieceRefusesWhatIsInTheWay() {
    RingWeaver w = new RingWeaver();
    w.piece(2, 2, 8, 5, 1);
    int[][] clashing = {
      {5, 0, 5, 9}, {4, 3, 6, 4}, {4, 3, 9, 9}, {0, 1, 4, 3}, {0, 1, 10, 6}, {2, 2, 6, 4}, {8, 5, 4, 3},
      {2, 2, 10, 6}, {8, 5, 0, 1}, {4, 3, 10, 6}, {1, 2, 3, 2}, {9, 5, 7, 5}, {0, 0, 4, 4}, {2, 1, 2, 3}, {8, 4, 8, 6}
    };
    for (int[] c : clashing) {
      String told = c[0] + "," + c[1] + " " + c[2] + "," + c[3];
      Checks.due("in the way of " + told, ISE, piece(w, c[0], c[1], c[2], c[3], 1));
      Checks.due("in the way of " + told + " backwards", ISE, piece(w, c[2], c[3], c[0], c[1], 2));
    }
    Checks.due("nothing came of it", 1, w.count(0));
    int[][] free = {
      {8, 5, 14, 8}, {2, 2, -4, -1}, {2, 2, 8, 4}, {8, 5, 2, 3}, {3, 2, 4, 2}, {20, 11, 22, 12}, {16, 9, 18, 10}, {2, 2, 2, 1}
    };
    for (int i = 0; i < free.length; i++) {
      Checks.due("free " + i, i + 2, piece(w, free[i][0], free[i][1], free[i][2], free[i][3], 2));
    }
    Checks.due("the piece itself is not in its own way", 9, piece(w, 8, 5, 2, 2, 3));
    RingWeaver flat = new RingWeaver();
    flat.piece(0, 0, 4, 0, 1);
    Checks.due("the same line, over it", ISE, piece(flat, -1, 0, 5, 0, 1));
    Checks.due("the same line, within", ISE, piece(flat, 1, 0, 3, 0, 1));
    Checks.due("the same line, half", ISE, piece(flat, 3, 0, 6, 0, 1));
    Checks.due("the same line, behind", 2, piece(flat, 4, 0, 6, 0, 1));
    Checks.due("the same line, apart", 3, piece(flat, -1, 0, -2, 0, 1));
    RingWeaver wide = new RingWeaver();
    wide.piece(-FAR, -FAR, FAR, FAR - 1, 1);
    Checks.due("past it by a hair", 2, piece(wide, 0, 0, -FAR, FAR, 1));
    Checks.due("across by a hair", ISE, piece(wide, 1, 0, -FAR, FAR, 1));
    Checks.due("almost along", 3, piece(wide, -FAR, -FAR, FAR, FAR - 2, 1));
  }

  private static void pieceDropsTheResult() {
    RingWeaver w = Checks.line(new RingWeaver(), 1, 0, 0, 4, 0, 0, 4);
    w.overlay(1);
    Checks.due("refused", IAE, piece(w, 0, 0, 0, 0, 1));
    Checks.due("refused", ISE, piece(w, 1, -1, 1, 1, 1));
    Checks.due("a refused piece leaves the result", 16L, w.area());
    Checks.due("new piece", 4, piece(w, 7, 7, 8, 8, 1));
    noResult("behind a new piece", w);
    piece(w, 7, 7, 8, 8, 1);
    w.overlay(1);
    Checks.due("turned piece", 4, piece(w, 0, 0, 4, 0, 2));
    noResult("behind a turned piece", w);
  }

  /** Needs more calls than an object is promised for; the limit is the document's all the same. */
  private static void pieceLimit() {
    RingWeaver w = new RingWeaver();
    for (int i = 0; i < 2048; i++) {
      Checks.due("piece " + i, i + 1, piece(w, 3 * i, 0, 3 * i + 1, 0, 3));
    }
    Checks.due("one too many", UOE, piece(w, 0, 5, 1, 5, 1));
    Checks.due("one too many that is in the way", ISE, piece(w, 0, 0, 2, 0, 1));
    Checks.due("one too many with wrong marks", IAE, piece(w, 0, 5, 1, 5, 4));
    Checks.due("one of them", 2048, piece(w, 1, 0, 0, 0, 1));
    Checks.due("clear", 2048, w.clear());
    Checks.due("room again", 1, piece(w, 0, 5, 1, 5, 1));
  }

  private static void clear() {
    RingWeaver w = new RingWeaver();
    Checks.due("clear of nothing", 0, w.clear());
    Checks.line(w, 3, 0, 0, 4, 0, 0, 4);
    w.overlay(0);
    Checks.due("clear", 3, w.clear());
    Checks.due("no pieces", 0, w.count(0));
    noResult("behind clear", w);
    Checks.due("clear again", 0, w.clear());
    Checks.due("the way is free", 1, piece(w, 1, -1, 1, 9, 1));
    Checks.due("and open", ISE, overlay(w, 0));
    w.clear();
    Checks.line(w, 2, 5, 5, 6, 5, 5, 6);
    Checks.due("nothing of the old is left", "1 | 6 1 3 1 4 | 5,5 6,5 5,6 5,5 | 1", Checks.overlaid(w, 1));
  }

  private static void overlayWhats() {
    RingWeaver w = Checks.square(Checks.square(new RingWeaver(), 1, 0, 0, 3), 2, 1, 1, 3);
    Checks.due("both", "1 | 6 1 3 1 5 | 1,1 3,1 3,3 1,3 1,1 | 8", Checks.overlaid(w, 0));
    Checks.due("either", "1 | 6 1 3 1 9 | 0,0 3,0 3,1 4,1 4,4 1,4 1,3 0,3 0,0 | 28", Checks.overlaid(w, 1));
    Checks.due("first", "1 | 6 1 3 1 7 | 0,0 3,0 3,1 1,1 1,3 0,3 0,0 | 10", Checks.overlaid(w, 2));
    Checks.due("one", "2 | 6 2 3 1 7 3 1 7 | 0,0 3,0 3,1 1,1 1,3 0,3 0,0 1,3 3,3 3,1 4,1 4,4 1,4 1,3 | 20", Checks.overlaid(w, 3));
    Checks.due("second", "1 | 6 1 3 1 7 | 1,3 3,3 3,1 4,1 4,4 1,4 1,3 | 10", Checks.overlaid(w, 4));
    RingWeaver same = Checks.square(new RingWeaver(), 3, 0, 0, 2);
    String[] due = {"1 | 6 1 3 1 5 | 0,0 2,0 2,2 0,2 0,0 | 8", "1 | 6 1 3 1 5 | 0,0 2,0 2,2 0,2 0,0 | 8", "0 | 6 0 | | 0", "0 | 6 0 | | 0", "0 | 6 0 | | 0"};
    for (int what = 0; what <= 4; what++) {
      Checks.due("alike, " + what, due[what], Checks.overlaid(same, what));
    }
    RingWeaver beside = Checks.square(Checks.square(new RingWeaver(), 1, 0, 0, 1), 2, 1, 0, 1);
    Checks.due("side by side, either", "1 | 6 1 3 1 5 | 0,0 2,0 2,1 0,1 0,0 | 4", Checks.overlaid(beside, 1));
    Checks.due("side by side, one", "1 | 6 1 3 1 5 | 0,0 2,0 2,1 0,1 0,0 | 4", Checks.overlaid(beside, 3));
    Checks.due("side by side, both", "0 | 6 0 | | 0", Checks.overlaid(beside, 0));
    Checks.due("side by side, second", "1 | 6 1 3 1 5 | 1,0 2,0 2,1 1,1 1,0 | 2", Checks.overlaid(beside, 4));
  }

  private static void overlayRefuses() {
    RingWeaver w = Checks.line(new RingWeaver(), 1, 0, 0, 4, 0, 0, 4);
    for (int bad : ODD_NUMBERS) {
      if (bad < 0 || bad > 4) {
        w.overlay(1);
        Checks.due("overlay " + bad, IAE, overlay(w, bad));
        noResult("behind overlay " + bad, w);
      }
    }
    w.piece(9, 9, 9, 8, 2);
    for (int what = 0; what <= 4; what++) {
      Checks.due("second not closed, overlay " + what, ISE, overlay(w, what));
      noResult("behind an open drawing", w);
    }
    Checks.due("another what first", IAE, overlay(w, 5));
    w.piece(9, 9, 9, 8, 2);
    Checks.due("closed again", 1, overlay(w, 1));
    w.piece(9, 9, 9, 8, 1);
    Checks.due("first not closed", ISE, overlay(w, 4));
    RingWeaver mixed = new RingWeaver();
    mixed.piece(0, 0, 4, 0, 1);
    mixed.piece(4, 0, 0, 4, 2);
    mixed.piece(0, 4, 0, 0, 3);
    Checks.due("closed only if both drawings were one", ISE, overlay(mixed, 1));
  }

  /** More calls than promised again: triangles, so that the corners or the plan pass 2048. */
  private static void overlayLimits() {
    RingWeaver w = new RingWeaver();
    for (int i = 0; i < 512; i++) {
      Checks.line(w, 1, 3 * i, 0, 3 * i + 1, 0, 3 * i, 1);
    }
    Checks.due("512 triangles have 2048 corners", 512, overlay(w, 1));
    Checks.due("and 1538 numbers", 1538, w.count(1));
    Checks.due("2048 corners", 2048, w.count(2));
    Checks.line(w, 2, 0, 10, 1, 10, 0, 11);
    Checks.due("one more", UOE, overlay(w, 1));
    noResult("behind too large a result", w);
    Checks.due("without it", 512, overlay(w, 2));
    w.clear();
    for (int i = 0; i < 511; i++) {
      Checks.line(w, 1, 3 * i, 0, 3 * i + 1, 0, 3 * i, 1);
    }
    Checks.line(w, 2, 0, 10, 1, 10, 1, 11, 0, 11);
    Checks.due("2049 corners", UOE, overlay(w, 3));
    noResult("behind 2049 corners", w);
    Checks.due("2044 corners", 511, overlay(w, 2));
    Checks.due("the 5 alone", "1 | 6 1 3 1 5 | 0,10 1,10 1,11 0,11 0,10 | 2", Checks.overlaid(w, 4));
  }

  /** Ends at the height from which the line goes to the right: they must not count twice or not at all. */
  private static void insideAtHeights() {
    RingWeaver w = Checks.line(new RingWeaver(), 1, 0, 0, 4, -4, 8, 0, 12, -4, 16, 0, 8, 8);
    Checks.line(w, 2, 2, 0, 4, -2, 6, 0, 4, 2);
    Checks.due("a hole at the height of corners", "1 | 6 1 3 2 7 5 | 0,0 4,-4 8,0 12,-4 16,0 8,8 0,0 2,0 4,2 6,0 4,-2 2,0 | 176", Checks.overlaid(w, 2));
    Checks.due("what fills it", "1 | 6 1 3 1 5 | 2,0 4,-2 6,0 4,2 2,0 | 16", Checks.overlaid(w, 0));
    RingWeaver flat = Checks.line(new RingWeaver(), 1, 0, 0, 1, 0, 1, 1, 3, 1, 3, 0, 4, 0, 4, 2, 0, 2);
    Checks.line(flat, 2, 1, 0, 3, 0, 3, 1, 1, 1);
    Checks.due("level pieces to the right", "1 | 6 1 3 1 5 | 0,0 4,0 4,2 0,2 0,0 | 16", Checks.overlaid(flat, 1));
    Checks.due("level pieces, first", "1 | 6 1 3 1 9 | 0,0 1,0 1,1 3,1 3,0 4,0 4,2 0,2 0,0 | 12", Checks.overlaid(flat, 2));
  }

  private static void rings() {
    RingWeaver corner = Checks.square(Checks.square(new RingWeaver(), 1, 0, 0, 1), 1, 1, 1, 1);
    Checks.due("two squares at a corner", "2 | 6 2 3 1 5 3 1 5 | 0,0 1,0 1,1 0,1 0,0 1,1 2,1 2,2 1,2 1,1 | 4", Checks.overlaid(corner, 1));
    RingWeaver bay = Checks.square(new RingWeaver(), 1, 0, 0, 2);
    Checks.square(bay, 1, 0, 0, 1);
    Checks.due("a corner cut out", "1 | 6 1 3 1 7 | 0,1 1,1 1,0 2,0 2,2 0,2 0,1 | 6", Checks.overlaid(bay, 1));
    RingWeaver touch = Checks.line(new RingWeaver(), 1, 0, 0, 4, 0, 8, 0, 8, 8, 0, 8);
    Checks.line(touch, 1, 4, 0, 6, 3, 2, 3);
    Checks.due("a hole at a side, whose place is no corner of the shell", "1 | 6 1 3 2 5 4 | 0,0 8,0 8,8 0,8 0,0 2,3 6,3 4,0 2,3 | 116", Checks.overlaid(touch, 1));
    RingWeaver split = Checks.line(new RingWeaver(), 1, 0, 0, 4, 0, 8, 0, 8, 8, 4, 8, 0, 8);
    Checks.line(split, 1, 4, 0, 6, 4, 4, 8, 2, 4);
    Checks.due("a hole at two sides makes two shells", "2 | 6 2 3 1 6 3 1 6 | 0,0 4,0 2,4 4,8 0,8 0,0 4,0 8,0 8,8 4,8 6,4 4,0 | 96", Checks.overlaid(split, 1));
    RingWeaver holes = Checks.square(new RingWeaver(), 1, 0, 0, 4);
    Checks.square(Checks.square(holes, 1, 1, 1, 1), 1, 2, 2, 1);
    Checks.due("two holes at a corner", "1 | 6 1 3 3 5 5 5 | 0,0 4,0 4,4 0,4 0,0 1,1 1,2 2,2 2,1 1,1 2,2 2,3 3,3 3,2 2,2 | 28", Checks.overlaid(holes, 2));
    RingWeaver clasp = Checks.line(new RingWeaver(), 1, 0, 0, 6, 0, 6, 6, 3, 6, 0, 6);
    Checks.line(clasp, 1, 1, 1, 5, 1, 5, 5, 3, 6, 1, 5);
    Checks.due("an area that comes back to itself at a place", "1 | 6 1 3 2 5 6 | 0,0 6,0 6,6 0,6 0,0 1,1 1,5 3,6 5,5 5,1 1,1 | 36", Checks.overlaid(clasp, 2));
    RingWeaver straight = Checks.square(Checks.square(new RingWeaver(), 1, 0, 0, 3), 2, 3, 0, 3);
    Checks.due("places within a side are no corners", "1 | 6 1 3 1 5 | 0,0 6,0 6,3 0,3 0,0 | 36", Checks.overlaid(straight, 1));
  }

  private static void polygonsAndHoles() {
    RingWeaver nested = new RingWeaver();
    for (int i = 0; i < 5; i++) {
      Checks.square(nested, 1, i, i, 10 - 2 * i);
    }
    Checks.due("squares in squares", "3 | 6 3 3 2 5 5 3 2 5 5 3 1 5 |"
        + " 0,0 10,0 10,10 0,10 0,0 1,1 1,9 9,9 9,1 1,1"
        + " 2,2 8,2 8,8 2,8 2,2 3,3 3,7 7,7 7,3 3,3"
        + " 4,4 6,4 6,6 4,6 4,4 | 120", Checks.overlaid(nested, 1));
    RingWeaver chain = Checks.square(new RingWeaver(), 1, 0, 0, 5);
    int[][] holes = {{2, 1}, {3, 2}, {2, 3}, {1, 2}};
    for (int[] h : holes) {
      Checks.square(chain, 1, h[0], h[1], 1);
    }
    Checks.due("four holes in a ring are one, with an area within", "2 | 6 2 3 2 5 13 3 1 5 |"
        + " 0,0 5,0 5,5 0,5 0,0 1,2 1,3 2,3 2,4 3,4 3,3 4,3 4,2 3,2 3,1 2,1 2,2 1,2"
        + " 2,2 3,2 3,3 2,3 2,2 | 42", Checks.overlaid(chain, 1));
    RingWeaver far = Checks.line(new RingWeaver(), 1, 0, 0, 20, 0, 20, 20);
    Checks.line(far, 1, 14, 2, 18, 2, 18, 6);
    Checks.line(far, 1, 0, 10, 4, 10, 4, 14, 0, 14);
    Checks.due("a hole in a shell, none in the other", "2 | 6 2 3 2 4 4 3 1 5 |"
        + " 0,0 20,0 20,20 0,0 14,2 18,6 18,2 14,2 0,10 4,10 4,14 0,14 0,10 | 416", Checks.overlaid(far, 1));
    RingWeaver island = Checks.line(new RingWeaver(), 1, 0, 0, 12, 0, 12, 12, 0, 12);
    Checks.line(island, 1, 2, 2, 10, 2, 10, 10, 2, 10);
    Checks.line(island, 1, 2, 2, 8, 3, 8, 8, 3, 8);
    Checks.line(island, 1, 4, 4, 7, 4, 7, 7);
    Checks.due("an island that touches the hole about it, with a hole of its own", "2 | 6 2 3 2 5 5 3 2 5 4 |"
        + " 0,0 12,0 12,12 0,12 0,0 2,2 2,10 10,10 10,2 2,2"
        + " 2,2 8,3 8,8 3,8 2,2 4,4 7,7 7,4 4,4 | 211", Checks.overlaid(island, 1));
  }

  private static void orderOfPolygonsAndHoles() {
    RingWeaver w = Checks.line(new RingWeaver(), 1, 5, 0, 6, 0, 5, 1);
    Checks.line(w, 1, 0, 5, 1, 5, 0, 6);
    Checks.line(w, 1, -3, 9, -2, 9, -3, 10);
    Checks.line(w, 1, 0, -5, 1, -5, 0, -4);
    Checks.due("by x, then by y", "4 | 6 4 3 1 4 3 1 4 3 1 4 3 1 4 |"
        + " -3,9 -2,9 -3,10 -3,9 0,-5 1,-5 0,-4 0,-5 0,5 1,5 0,6 0,5 5,0 6,0 5,1 5,0 | 4", Checks.overlaid(w, 1));
    RingWeaver fan = Checks.line(new RingWeaver(), 1, 0, 0, 3, 2, 3, 4);
    Checks.line(fan, 1, 0, 0, 2, -3, 2, -1);
    Checks.line(fan, 1, 0, 0, 3, -1, 3, 1);
    Checks.due("by the second corner", "3 | 6 3 3 1 4 3 1 4 3 1 4 |"
        + " 0,0 2,-3 2,-1 0,0 0,0 3,-1 3,1 0,0 0,0 3,2 3,4 0,0 | 16", Checks.overlaid(fan, 1));
    RingWeaver about = Checks.line(fan, 1, -9, -9, 9, -9, 9, 9, -9, 9);
    Checks.line(about, 1, -5, 0, -4, 0, -5, 1);
    Checks.due("so are holes", "1 | 6 1 3 5 5 4 4 4 4 |"
        + " -9,-9 9,-9 9,9 -9,9 -9,-9 -5,0 -5,1 -4,0 -5,0"
        + " 0,0 2,-1 2,-3 0,0 0,0 3,1 3,-1 0,0 0,0 3,4 3,2 0,0 | 631", Checks.overlaid(about, 1));
  }

  private static void farthest() {
    RingWeaver w = Checks.line(new RingWeaver(), 1, -FAR, -FAR, FAR, -FAR, FAR, FAR, -FAR, FAR);
    Checks.due("all of the plane", "1 | 6 1 3 1 5 | -500000000,-500000000 500000000,-500000000 500000000,500000000 -500000000,500000000 -500000000,-500000000 | 2000000000000000000", Checks.overlaid(w, 1));
    Checks.line(w, 2, -FAR, -FAR, FAR, FAR, 0, 1);
    Checks.due("a sliver", "1 | 6 1 3 1 4 | -500000000,-500000000 500000000,500000000 0,1 -500000000,-500000000 | 1000000000", Checks.overlaid(w, 0));
    Checks.due("all but the sliver", "2 | 6 2 3 1 5 3 1 4 |"
        + " -500000000,-500000000 0,1 500000000,500000000 -500000000,500000000 -500000000,-500000000"
        + " -500000000,-500000000 500000000,-500000000 500000000,500000000 -500000000,-500000000"
        + " | 1999999999000000000", Checks.overlaid(w, 3));
  }

  private static void plan() {
    RingWeaver w = Checks.square(new RingWeaver(), 1, 0, 0, 4);
    Checks.square(w, 1, 1, 1, 1);
    w.overlay(1);
    int[] due = {6, 1, 3, 2, 5, 5};
    for (int i = 0; i < due.length; i++) {
      int at = i;
      Checks.due("plan " + i, due[i], Checks.answer(() -> w.plan(at)));
    }
    for (int bad : new int[] {6, 7, 15, 16, 17, -1, 2048, Integer.MIN_VALUE, Integer.MAX_VALUE}) {
      Checks.due("plan " + bad, IOOBE, Checks.answer(() -> w.plan(bad)));
    }
    w.overlay(0);
    Checks.due("plan 1 of an empty result", 0, Checks.answer(() -> w.plan(1)));
    Checks.due("plan 2 of an empty result", IOOBE, Checks.answer(() -> w.plan(2)));
  }

  private static void ordinate() {
    RingWeaver w = Checks.line(new RingWeaver(), 1, 0, 1, 5, 2, 3, 7);
    w.overlay(1);
    int[] due = {0, 1, 5, 2, 3, 7, 0, 1};
    for (int i = 0; i < due.length; i++) {
      int at = i / 2;
      int what = i % 2;
      Checks.due("ordinate " + at + ", " + what, due[i], Checks.answer(() -> w.ordinate(at, what)));
    }
    for (int bad : new int[] {4, 5, 16, -1, 2048, Integer.MIN_VALUE, Integer.MAX_VALUE}) {
      Checks.due("ordinate of corner " + bad, IOOBE, Checks.answer(() -> w.ordinate(bad, 0)));
      Checks.due("ordinate of corner " + bad, IOOBE, Checks.answer(() -> w.ordinate(bad, 1)));
    }
    for (int bad : new int[] {2, 3, -1, Integer.MIN_VALUE, Integer.MAX_VALUE}) {
      Checks.due("ordinate 0, " + bad, IOOBE, Checks.answer(() -> w.ordinate(0, bad)));
    }
  }

  private static void area() {
    RingWeaver w = Checks.line(new RingWeaver(), 1, -7, 3, 2, -6, 11, 8);
    Checks.due("no result yet", 0L, w.area());
    w.overlay(2);
    Checks.due("triangle", 207L, w.area());
    w.overlay(4);
    Checks.due("nothing", 0L, w.area());
    Checks.line(w, 1, 1, 1, 2, 1, 2, 2);
    w.overlay(2);
    Checks.due("less a hole", 206L, w.area());
    Checks.due("asked again", 206L, w.area());
  }

  private static void count() {
    RingWeaver w = Checks.square(new RingWeaver(), 1, 0, 0, 4);
    Checks.square(w, 2, 1, 1, 1);
    w.overlay(3);
    int[] due = {20, 6, 10, 1};
    for (int i = 0; i < due.length; i++) {
      Checks.due("count " + i, due[i], w.count(i));
    }
    for (int bad : ODD_NUMBERS) {
      Checks.due("count " + bad, -1, w.count(bad));
    }
    Checks.due("looking changes nothing", "6 1 3 2 5 5 | 0,0 4,0 4,4 0,4 0,0 1,1 1,2 2,2 2,1 1,1", Checks.told(w));
  }
}
