/** Ordinary use of the class, promise by promise; the edges that the document names are in EdgesTest. */
public final class PromisesTest {
  public static void main(String[] args) {
    newObject();
    pieceCountsAndTurns();
    pieceRefusesWhatIsInTheWay();
    clear();
    overlayWhats();
    insideAtHeights();
    rings();
    polygonsAndHoles();
    plan();
    ordinate();
    area();
    count();
    Checks.end("PromisesTest");
  }

  private static void newObject() {
    RingWeaver w = new RingWeaver();
    Checks.due("a new one has no pieces", 0, w.count(0));
    Checks.noResult("a new one", w);
  }

  private static void pieceCountsAndTurns() {
    RingWeaver w = new RingWeaver();
    Checks.due("first piece", 1, Checks.piece(w, 0, 0, 4, 0, 1));
    Checks.due("second piece", 2, Checks.piece(w, 4, 0, 0, 4, 1));
    Checks.due("third piece", 3, Checks.piece(w, 0, 4, 0, 0, 1));
    Checks.due("triangle", "1 | 6 1 3 1 4 | 0,0 4,0 0,4 0,0 | 16", Checks.overlaid(w, 1));
    Checks.due("a mark more, from the other end", 3, Checks.piece(w, 4, 0, 0, 0, 2));
    Checks.due("second drawing open", Checks.ISE, Checks.overlay(w, 1));
    Checks.due("the rest of both marks turned", 3, Checks.piece(w, 0, 4, 4, 0, 3));
    Checks.due("first drawing open now", Checks.ISE, Checks.overlay(w, 1));
    Checks.due("both marks turned", 3, Checks.piece(w, 0, 0, 0, 4, 3));
    Checks.due("and here", 3, Checks.piece(w, 0, 0, 4, 0, 1));
    Checks.due("the triangle is the second drawing's now", "1 | 6 1 3 1 4 | 0,0 4,0 0,4 0,0 | 16", Checks.overlaid(w, 4));
    Checks.due("and not the first's", "0 | 6 0 | | 0", Checks.overlaid(w, 2));
    Checks.line(w, 2, 0, 0, 4, 0, 0, 4);
    Checks.due("pieces without marks stay", 3, w.count(0));
    Checks.due("and bound nothing", "0 | 6 0 | | 0", Checks.overlaid(w, 3));
    Checks.due("but are in the way", Checks.ISE, Checks.piece(w, 1, -1, 1, 1, 1));
  }

  private static void pieceRefusesWhatIsInTheWay() {
    RingWeaver w = new RingWeaver();
    w.piece(2, 2, 8, 5, 1);
    int[][] clashing = {
      {5, 0, 5, 9}, {4, 3, 6, 4}, {4, 3, 9, 9}, {0, 1, 4, 3}, {0, 1, 10, 6}, {2, 2, 6, 4}, {8, 5, 4, 3},
      {2, 2, 10, 6}, {8, 5, 0, 1}, {4, 3, 10, 6}, {1, 2, 3, 2}, {9, 5, 7, 5}, {0, 0, 4, 4}, {2, 1, 2, 3}, {8, 4, 8, 6}
    };
    for (int[] c : clashing) {
      String told = c[0] + "," + c[1] + " " + c[2] + "," + c[3];
      Checks.due("in the way of " + told, Checks.ISE, Checks.piece(w, c[0], c[1], c[2], c[3], 1));
      Checks.due("in the way of " + told + " backwards", Checks.ISE, Checks.piece(w, c[2], c[3], c[0], c[1], 2));
    }
    Checks.due("nothing came of it", 1, w.count(0));
    int[][] free = {
      {8, 5, 14, 8}, {2, 2, -4, -1}, {2, 2, 8, 4}, {8, 5, 2, 3}, {3, 2, 4, 2}, {20, 11, 22, 12}, {16, 9, 18, 10}, {2, 2, 2, 1}
    };
    for (int i = 0; i < free.length; i++) {
      Checks.due("free " + i, i + 2, Checks.piece(w, free[i][0], free[i][1], free[i][2], free[i][3], 2));
    }
    Checks.due("the piece itself is not in its own way", 9, Checks.piece(w, 8, 5, 2, 2, 3));
  }

  private static void clear() {
    RingWeaver w = Checks.line(new RingWeaver(), 1, 0, 0, 4, 0, 0, 4);
    w.piece(9, 9, 9, 8, 2);
    Checks.due("clear of four", 4, w.clear());
    Checks.due("cleared", 0, w.count(0));
    Checks.line(w, 2, 1, 0, 1, 1, 0, 1);
    w.overlay(4);
    Checks.due("clear of three, with a result", 3, w.clear());
    Checks.noResult("cleared, with a result", w);
    Checks.due("nothing of them is left", "0 | 6 0 | | 0", Checks.overlaid(w, 1));
  }

  private static void overlayWhats() {
    RingWeaver w = Checks.square(Checks.square(new RingWeaver(), 1, 0, 0, 3), 2, 1, 1, 3);
    Checks.due("both", "1 | 6 1 3 1 5 | 1,1 3,1 3,3 1,3 1,1 | 8", Checks.overlaid(w, 0));
    Checks.due("either", "1 | 6 1 3 1 9 | 0,0 3,0 3,1 4,1 4,4 1,4 1,3 0,3 0,0 | 28", Checks.overlaid(w, 1));
    Checks.due("first", "1 | 6 1 3 1 7 | 0,0 3,0 3,1 1,1 1,3 0,3 0,0 | 10", Checks.overlaid(w, 2));
    Checks.due("one", "2 | 6 2 3 1 7 3 1 7 | 0,0 3,0 3,1 1,1 1,3 0,3 0,0 1,3 3,3 3,1 4,1 4,4 1,4 1,3 | 20", Checks.overlaid(w, 3));
    Checks.due("second", "1 | 6 1 3 1 7 | 1,3 3,3 3,1 4,1 4,4 1,4 1,3 | 10", Checks.overlaid(w, 4));
    RingWeaver same = Checks.square(new RingWeaver(), 3, 0, 0, 2);
    String[] due = {"1 | 6 1 3 1 5 | 0,0 2,0 2,2 0,2 0,0 | 8", "1 | 6 1 3 1 5 | 0,0 2,0 2,2 0,2 0,0 | 8", "0 | 6 0 | | 0", "0 | 6 0 | | 0", "0 | 6 0 | | 0"};
    for (int what = 0; what <= 4; what++) {
      Checks.due("alike, " + what, due[what], Checks.overlaid(same, what));
    }
  }

  /** Ends at the height from which the line goes to the right: they must not count twice or not at all. */
  private static void insideAtHeights() {
    RingWeaver w = Checks.line(new RingWeaver(), 1, 0, 0, 4, -4, 8, 0, 12, -4, 16, 0, 8, 8);
    Checks.line(w, 2, 2, 0, 4, -2, 6, 0, 4, 2);
    Checks.due("a hole at the height of corners", "1 | 6 1 3 2 7 5 | 0,0 4,-4 8,0 12,-4 16,0 8,8 0,0 2,0 4,2 6,0 4,-2 2,0 | 176", Checks.overlaid(w, 2));
    Checks.due("what fills it", "1 | 6 1 3 1 5 | 2,0 4,-2 6,0 4,2 2,0 | 16", Checks.overlaid(w, 0));
    RingWeaver flat = Checks.line(new RingWeaver(), 1, 0, 0, 1, 0, 1, 1, 3, 1, 3, 0, 4, 0, 4, 2, 0, 2);
    Checks.line(flat, 2, 1, 0, 3, 0, 3, 1, 1, 1);
    Checks.due("level pieces to the right", "1 | 6 1 3 1 5 | 0,0 4,0 4,2 0,2 0,0 | 16", Checks.overlaid(flat, 1));
    Checks.due("level pieces, first", "1 | 6 1 3 1 9 | 0,0 1,0 1,1 3,1 3,0 4,0 4,2 0,2 0,0 | 12", Checks.overlaid(flat, 2));
  }

  private static void rings() {
    RingWeaver bay = Checks.square(new RingWeaver(), 1, 0, 0, 2);
    Checks.square(bay, 1, 0, 0, 1);
    Checks.due("a corner cut out", "1 | 6 1 3 1 7 | 0,1 1,1 1,0 2,0 2,2 0,2 0,1 | 6", Checks.overlaid(bay, 1));
    RingWeaver holes = Checks.square(new RingWeaver(), 1, 0, 0, 4);
    Checks.square(Checks.square(holes, 1, 1, 1, 1), 1, 2, 2, 1);
    Checks.due("two holes at a corner", "1 | 6 1 3 3 5 5 5 | 0,0 4,0 4,4 0,4 0,0 1,1 1,2 2,2 2,1 1,1 2,2 2,3 3,3 3,2 2,2 | 28", Checks.overlaid(holes, 2));
    RingWeaver clasp = Checks.line(new RingWeaver(), 1, 0, 0, 6, 0, 6, 6, 3, 6, 0, 6);
    Checks.line(clasp, 1, 1, 1, 5, 1, 5, 5, 3, 6, 1, 5);
    Checks.due("an area that comes back to itself at a place", "1 | 6 1 3 2 5 6 | 0,0 6,0 6,6 0,6 0,0 1,1 1,5 3,6 5,5 5,1 1,1 | 36", Checks.overlaid(clasp, 2));
  }

  private static void polygonsAndHoles() {
    RingWeaver nested = new RingWeaver();
    for (int i = 0; i < 5; i++) {
      Checks.square(nested, 1, i, i, 10 - 2 * i);
    }
    Checks.due("squares in squares", "3 | 6 3 3 2 5 5 3 2 5 5 3 1 5 |"
        + " 0,0 10,0 10,10 0,10 0,0 1,1 1,9 9,9 9,1 1,1"
        + " 2,2 8,2 8,8 2,8 2,2 3,3 3,7 7,7 7,3 3,3"
        + " 4,4 6,4 6,6 4,6 4,4 | 120", Checks.overlaid(nested, 1));
    RingWeaver chain = Checks.square(new RingWeaver(), 1, 0, 0, 5);
    int[][] holes = {{2, 1}, {3, 2}, {2, 3}, {1, 2}};
    for (int[] h : holes) {
      Checks.square(chain, 1, h[0], h[1], 1);
    }
    Checks.due("four holes in a ring are one, with an area within", "2 | 6 2 3 2 5 13 3 1 5 |"
        + " 0,0 5,0 5,5 0,5 0,0 1,2 1,3 2,3 2,4 3,4 3,3 4,3 4,2 3,2 3,1 2,1 2,2 1,2"
        + " 2,2 3,2 3,3 2,3 2,2 | 42", Checks.overlaid(chain, 1));
    RingWeaver far = Checks.line(new RingWeaver(), 1, 0, 0, 20, 0, 20, 20);
    Checks.line(far, 1, 14, 2, 18, 2, 18, 6);
    Checks.line(far, 1, 0, 10, 4, 10, 4, 14, 0, 14);
    Checks.due("a hole in a shell, none in the other", "2 | 6 2 3 2 4 4 3 1 5 |"
        + " 0,0 20,0 20,20 0,0 14,2 18,6 18,2 14,2 0,10 4,10 4,14 0,14 0,10 | 416", Checks.overlaid(far, 1));
    RingWeaver island = Checks.line(new RingWeaver(), 1, 0, 0, 12, 0, 12, 12, 0, 12);
    Checks.line(island, 1, 2, 2, 10, 2, 10, 10, 2, 10);
    Checks.line(island, 1, 2, 2, 8, 3, 8, 8, 3, 8);
    Checks.line(island, 1, 4, 4, 7, 4, 7, 7);
    Checks.due("an island that touches the hole about it, with a hole of its own", "2 | 6 2 3 2 5 5 3 2 5 4 |"
        + " 0,0 12,0 12,12 0,12 0,0 2,2 2,10 10,10 10,2 2,2"
        + " 2,2 8,3 8,8 3,8 2,2 4,4 7,7 7,4 4,4 | 211", Checks.overlaid(island, 1));
  }

  private static RingWeaver frameAndTriangle() {
    RingWeaver w = Checks.line(new RingWeaver(), 1, 0, 0, 6, 0, 6, 6, 0, 6);
    Checks.line(w, 2, 1, 1, 5, 1, 5, 5, 1, 5);
    return Checks.line(w, 1, 8, -1, 9, -1, 8, 2);
  }

  private static void plan() {
    RingWeaver w = frameAndTriangle();
    w.overlay(2);
    int[] due = {6, 2, 3, 2, 5, 5, 3, 1, 4};
    for (int i = 0; i < due.length; i++) {
      Checks.due("plan " + i, due[i], Checks.plan(w, i));
    }
    Checks.due("plan 9", Checks.IOOBE, Checks.plan(w, 9));
  }

  private static void ordinate() {
    RingWeaver w = frameAndTriangle();
    w.overlay(2);
    int[] due = {0, 0, 6, 0, 6, 6, 0, 6, 0, 0, 1, 1, 1, 5, 5, 5, 5, 1, 1, 1, 8, -1, 9, -1, 8, 2, 8, -1};
    for (int i = 0; i < due.length; i++) {
      Checks.due("ordinate " + i / 2 + ", " + i % 2, due[i], Checks.ordinate(w, i / 2, i % 2));
    }
    Checks.due("ordinate 14, 0", Checks.IOOBE, Checks.ordinate(w, 14, 0));
    Checks.due("ordinate 0, 2", Checks.IOOBE, Checks.ordinate(w, 0, 2));
  }

  private static void area() {
    RingWeaver w = Checks.line(new RingWeaver(), 1, -7, 3, 2, -6, 11, 8);
    Checks.due("no result yet", 0L, w.area());
    w.overlay(2);
    Checks.due("triangle", 207L, w.area());
    w.overlay(4);
    Checks.due("nothing", 0L, w.area());
    Checks.line(w, 1, 1, 1, 2, 1, 2, 2);
    w.overlay(2);
    Checks.due("less a hole", 206L, w.area());
    Checks.due("asked again", 206L, w.area());
  }

  private static void count() {
    RingWeaver w = frameAndTriangle();
    w.overlay(2);
    int[] due = {11, 9, 14, 2, RingWeaver.NONE};
    for (int what = 0; what < due.length; what++) {
      Checks.due("count " + what, due[what], w.count(what));
    }
  }
}
