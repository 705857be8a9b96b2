import java.math.BigInteger;

/**
 * The sentences of the document that name a boundary case, each with a test of its own: the sentence
 * stands above the test that fails when it is broken.
 */
public final class EdgesTest {
  private static final String IAE = Checks.IAE;
  private static final String ISE = Checks.ISE;
  private static final String UOE = Checks.UOE;
  private static final String IOOBE = Checks.IOOBE;
  private static final int FAR = Checks.FAR;
  private static final int MIN = Integer.MIN_VALUE;
  private static final int MAX = Integer.MAX_VALUE;
  private static final String EMPTY = "0 | 6 0 | | 0";

  public static void main(String[] args) {
    newObject();
    piece();
    clear();
    overlay();
    closed();
    terms();
    plan();
    ordinate();
    area();
    count();
    Checks.end("EdgesTest");
  }

  private static void due(String call, Object want, Object got) {
    Checks.due(call, want, got);
  }

  private static RingWeaver triangle(int marks) {
    return Checks.line(new RingWeaver(), marks, 0, 0, 4, 0, 0, 4);
  }

  // ---- Promise 1

  private static void newObject() {
    newHasNoPieces();
    newHasNoResult();
    newOnesAreApart();
  }

  /** "No pieces": none counted, none cleared, none in the way, and drawings of nothing are closed. */
  private static void newHasNoPieces() {
    due("new: count(0)", 0, new RingWeaver().count(0));
    due("new: clear()", 0, new RingWeaver().clear());
    due("new: piece", 1, Checks.piece(new RingWeaver(), 0, 0, 1, 0, 1));
    for (int what = 0; what <= 4; what++) {
      due("new: overlay " + what, EMPTY, Checks.overlaid(new RingWeaver(), what));
    }
    due("new: overlay -1", IAE, Checks.overlay(new RingWeaver(), -1));
    due("new: overlay 5", IAE, Checks.overlay(new RingWeaver(), 5));
  }

  /** "no result". */
  private static void newHasNoResult() {
    RingWeaver w = new RingWeaver();
    Checks.noResult("new", w);
    for (int i : new int[] {MIN, -1, 0, 1, MAX}) {
      due("new: plan " + i, IOOBE, Checks.plan(w, i));
      for (int what : new int[] {MIN, -1, 0, 1, 2, MAX}) {
        due("new: ordinate " + i + ", " + what, IOOBE, Checks.ordinate(w, i, what));
      }
    }
    due("new: count(-1)", -1, w.count(-1));
    due("new: count(4)", -1, w.count(4));
    Checks.noResult("new, and looked at", w);
  }

  /** Nothing of one object is another's. */
  private static void newOnesAreApart() {
    RingWeaver one = triangle(1);
    one.overlay(1);
    RingWeaver other = new RingWeaver();
    due("beside another: pieces", 0, other.count(0));
    Checks.noResult("beside another", other);
    other.piece(1, -1, 1, 1, 2);
    other.clear();
    due("the first one's pieces", 3, one.count(0));
    due("the first one's area", 16L, one.area());
  }

  // ---- Promise 2

  private static void piece() {
    placesAtTheEnds();
    placesBeyond();
    bothAlike();
    otherMarks();
    thereAlready();
    markThatItHasIsGone();
    withoutMarksItIsThere();
    resultIsGone();
    moreInCommonThanAnEnd();
    justAnEndInCommon();
    inCommonFarAway();
    isThatOne();
    limitOfPieces();
    firstExceptionToldOfPiece();
    refusedPieceChangesNothing();
  }

  /** "PLACES have whole numbers x and y from -500000000 to 500000000": these two are places. */
  private static void placesAtTheEnds() {
    for (int end : new int[] {-FAR, FAR}) {
      due("x " + end, 1, Checks.piece(new RingWeaver(), end, 0, 1, 2, 1));
      due("y " + end, 1, Checks.piece(new RingWeaver(), 0, end, 1, 2, 1));
      due("toX " + end, 1, Checks.piece(new RingWeaver(), 0, 0, end, 2, 1));
      due("toY " + end, 1, Checks.piece(new RingWeaver(), 0, 0, 1, end, 1));
    }
    due("across the plane", 1, Checks.piece(new RingWeaver(), -FAR, -FAR, FAR, FAR, 3));
    due("and back", 1, Checks.piece(new RingWeaver(), FAR, -FAR, -FAR, FAR, 3));
  }

  /** "IllegalArgumentException, when a place is none of these". */
  private static void placesBeyond() {
    for (int bad : new int[] {MIN, -FAR - 1, FAR + 1, MAX}) {
      RingWeaver w = new RingWeaver();
      due("x " + bad, IAE, Checks.piece(w, bad, 0, 1, 2, 1));
      due("y " + bad, IAE, Checks.piece(w, 0, bad, 1, 2, 1));
      due("toX " + bad, IAE, Checks.piece(w, 0, 0, bad, 2, 1));
      due("toY " + bad, IAE, Checks.piece(w, 0, 0, 1, bad, 1));
      due("beyond: pieces", 0, w.count(0));
    }
  }

  /** "both are alike": the same x alone or the same y alone is not that. */
  private static void bothAlike() {
    RingWeaver w = new RingWeaver();
    int[][] places = {{0, 0}, {-3, 7}, {FAR, FAR}, {-FAR, -FAR}, {FAR, -FAR}};
    for (int[] p : places) {
      due("alike at " + p[0] + "," + p[1], IAE, Checks.piece(w, p[0], p[1], p[0], p[1], 1));
    }
    due("the same x", 1, Checks.piece(w, 3, 3, 3, 4, 1));
    due("the same y", 2, Checks.piece(w, 3, 3, 4, 3, 1));
    due("x and y changed over", 3, Checks.piece(w, 5, 6, 6, 5, 1));
    due("alike, an end of a piece", IAE, Checks.piece(w, 3, 3, 3, 3, 1));
  }

  /** "or for other marks" than "1 .. 3". */
  private static void otherMarks() {
    for (int marks : new int[] {MIN, -3, -1, 0, 4, 5, 6, 7, 8, MAX}) {
      RingWeaver w = triangle(1);
      due("a new piece with marks " + marks, IAE, Checks.piece(w, 10, 10, 11, 11, marks));
      due("one that is there with marks " + marks, IAE, Checks.piece(w, 0, 0, 4, 0, marks));
      due("behind marks " + marks, "1 | 6 1 3 1 4 | 0,0 4,0 0,4 0,0 | 16", Checks.overlaid(w, 2));
    }
    long[][] areas = {{0, 16, 16, 16, 0}, {0, 16, 0, 16, 16}, {16, 16, 0, 0, 0}};
    for (int marks = 1; marks <= 3; marks++) {
      RingWeaver w = triangle(marks);
      for (int what = 0; what <= 4; what++) {
        w.overlay(what);
        due("marks " + marks + ", overlay " + what, areas[marks - 1][what], w.area());
      }
    }
  }

  /** "of one that is there already each of these is turned": it is no new one, from whichever end it is told. */
  private static void thereAlready() {
    RingWeaver w = triangle(1);
    due("there, told alike", 3, Checks.piece(w, 0, 0, 4, 0, 2));
    due("there, told backwards", 3, Checks.piece(w, 0, 4, 4, 0, 2));
    due("there, the third", 3, Checks.piece(w, 0, 0, 0, 4, 2));
    due("there: pieces", 3, w.count(0));
    w.overlay(0);
    due("both have it now", 16L, w.area());
  }

  /** "(a mark that it has is gone)": all that marks can become, and what bounds the drawings then. */
  private static void markThatItHasIsGone() {
    for (int had = 1; had <= 3; had++) {
      for (int told = 1; told <= 3; told++) {
        RingWeaver w = triangle(had);
        Checks.line(w, told, 4, 0, 0, 0, 0, 4);
        int now = had ^ told;
        String call = "marks " + had + " and " + told;
        w.overlay(0);
        due(call + ": both", now == 3 ? 16L : 0L, w.area());
        w.overlay(2);
        due(call + ": first", now == 1 ? 16L : 0L, w.area());
        w.overlay(4);
        due(call + ": second", now == 2 ? 16L : 0L, w.area());
      }
    }
    RingWeaver w = triangle(1);
    w.piece(0, 0, 4, 0, 1);
    due("a mark gone opens the drawing", ISE, Checks.overlay(w, 1));
    w.piece(0, 0, 4, 0, 1);
    due("and turned once more closes it", 1, Checks.overlay(w, 1));
  }

  /** "MARKS: .. 0 neither": such a piece bounds nothing, but it is there. */
  private static void withoutMarksItIsThere() {
    RingWeaver w = new RingWeaver();
    w.piece(0, 0, 4, 0, 3);
    due("its marks gone", 1, Checks.piece(w, 4, 0, 0, 0, 3));
    for (int what = 0; what <= 4; what++) {
      due("it bounds neither, overlay " + what, EMPTY, Checks.overlaid(w, what));
    }
    due("it is in the way", ISE, Checks.piece(w, 2, -1, 2, 1, 1));
    due("it is none that is new", 1, Checks.piece(w, 0, 0, 4, 0, 1));
    due("clear counts it", 1, w.clear());
    due("behind clear it is not in the way", 1, Checks.piece(w, 2, -1, 2, 1, 1));
  }

  /** "The result is gone": by a new piece, by one turned, an empty result as well as another. */
  private static void resultIsGone() {
    RingWeaver w = triangle(1);
    w.overlay(1);
    due("a new piece", 4, Checks.piece(w, 7, 7, 8, 8, 1));
    Checks.noResult("behind a new piece", w);
    w.piece(7, 7, 8, 8, 1);
    w.overlay(1);
    due("a turned piece", 4, Checks.piece(w, 0, 0, 4, 0, 2));
    Checks.noResult("behind a turned piece", w);
    RingWeaver empty = new RingWeaver();
    empty.overlay(0);
    due("an empty result is one", 2, empty.count(1));
    empty.piece(0, 0, 1, 0, 1);
    Checks.noResult("an empty result, behind a piece", empty);
  }

  /** "IllegalStateException, when it has more in common with one that is there than a place that is an end of both". */
  private static void moreInCommonThanAnEnd() {
    RingWeaver w = new RingWeaver();
    w.piece(2, 2, 8, 5, 1);
    String[] ways = {"across", "an end within it", "an end within the new one", "along it, from end to within",
      "along it, beyond an end", "along it, beyond both", "along it, within", "along it, half"};
    int[][] pieces = {{5, 0, 5, 9}, {4, 3, 9, 9}, {2, 1, 2, 3}, {2, 2, 6, 4}, {2, 2, 10, 6}, {0, 1, 10, 6}, {4, 3, 6, 4}, {4, 3, 10, 6}};
    for (int i = 0; i < ways.length; i++) {
      int[] p = pieces[i];
      due(ways[i], ISE, Checks.piece(w, p[0], p[1], p[2], p[3], 1));
      due(ways[i] + ", backwards", ISE, Checks.piece(w, p[2], p[3], p[0], p[1], 2));
    }
    due("nothing came of it", 1, w.count(0));
    int[][] along = {{3, 6}, {1, 3}, {-1, 5}, {0, 3}, {1, 4}, {0, 5}, {-1, 4}};
    RingWeaver level = new RingWeaver();
    RingWeaver upright = new RingWeaver();
    level.piece(0, 0, 4, 0, 1);
    upright.piece(0, 0, 0, 4, 1);
    for (int[] a : along) {
      due("level from " + a[0] + " to " + a[1], ISE, Checks.piece(level, a[0], 0, a[1], 0, 1));
      due("upright from " + a[0] + " to " + a[1], ISE, Checks.piece(upright, 0, a[0], 0, a[1], 1));
    }
    due("across a level one", ISE, Checks.piece(level, 2, -1, 2, 1, 1));
    due("an end at a level one", ISE, Checks.piece(level, 2, 0, 2, 1, 1));
    due("across an upright one", ISE, Checks.piece(upright, -1, 2, 1, 2, 1));
    due("an end at an upright one", ISE, Checks.piece(upright, 0, 2, 1, 2, 1));
    due("another", 2, Checks.piece(upright, 9, 8, 9, 9, 1));
    due("across the last", ISE, Checks.piece(upright, 8, 8, 10, 9, 1));
    due("across the first", ISE, Checks.piece(upright, -1, 1, 1, 1, 1));
  }

  /** "than a place that is an end of both": that place alone, or none, is no more. */
  private static void justAnEndInCommon() {
    RingWeaver w = new RingWeaver();
    w.piece(2, 2, 8, 5, 1);
    String[] ways = {"on behind the end", "on before the start", "an angle", "an angle at the other end", "none, within its box",
      "none, farther along its line", "none, its line would cross beyond", "upright at an end"};
    int[][] pieces = {{8, 5, 14, 8}, {2, 2, -4, -1}, {2, 2, 8, 4}, {8, 5, 2, 3}, {3, 2, 4, 2}, {16, 9, 18, 10}, {9, 0, 9, 5}, {2, 2, 2, 1}};
    for (int i = 0; i < ways.length; i++) {
      int[] p = pieces[i];
      due(ways[i], i + 2, Checks.piece(w, p[0], p[1], p[2], p[3], 2));
    }
  }

  /** The same where the numbers are largest. */
  private static void inCommonFarAway() {
    RingWeaver w = new RingWeaver();
    w.piece(-FAR, -FAR, FAR, FAR - 1, 1);
    due("past it by a hair", 2, Checks.piece(w, 0, 0, -FAR, FAR, 1));
    due("across by a hair", ISE, Checks.piece(w, 1, 0, -FAR, FAR, 1));
    due("almost along it", 3, Checks.piece(w, -FAR, -FAR, FAR, FAR - 2, 1));
    due("across the plane", ISE, Checks.piece(w, -FAR, FAR, FAR, -FAR, 1));
    RingWeaver even = new RingWeaver();
    even.piece(-FAR, -FAR, FAR, FAR, 1);
    due("an end in the very middle", ISE, Checks.piece(even, 0, 0, -FAR, FAR, 1));
    due("one beside the middle", 2, Checks.piece(even, 0, 1, -FAR, FAR, 1));
    due("along it, up to its end", ISE, Checks.piece(even, FAR - 1, FAR - 1, FAR, FAR, 1));
  }

  /** "(and is not that one)": a piece has all in common with itself. */
  private static void isThatOne() {
    RingWeaver w = new RingWeaver();
    w.piece(2, 2, 8, 5, 1);
    w.piece(8, 5, 9, 9, 1);
    due("that one", 2, Checks.piece(w, 2, 2, 8, 5, 1));
    due("that one backwards", 2, Checks.piece(w, 8, 5, 2, 2, 1));
    due("half of that one", ISE, Checks.piece(w, 2, 2, 4, 3, 1));
    due("from an end of one to an end of another", 3, Checks.piece(w, 2, 2, 9, 9, 1));
  }

  /**
   * "UnsupportedOperationException, when there are 2048, and it is none of them". So many need more calls than
   * an object is promised for; the sentence is kept all the same.
   */
  private static void limitOfPieces() {
    RingWeaver w = new RingWeaver();
    for (int i = 0; i < 2048; i++) {
      due("piece " + i, i + 1, Checks.piece(w, 3 * i, 0, 3 * i + 1, 0, 3));
    }
    due("2049 pieces", UOE, Checks.piece(w, 0, 5, 1, 5, 1));
    due("2049 pieces, one that goes on at an end", UOE, Checks.piece(w, 1, 0, 2, 0, 1));
    due("there are 2048 still", 2048, w.count(0));
    due("the first of them", 2048, Checks.piece(w, 1, 0, 0, 0, 1));
    due("the last of them", 2048, Checks.piece(w, 3 * 2047, 0, 3 * 2047 + 1, 0, 1));
    due("2049 pieces that is in the way", ISE, Checks.piece(w, 0, 0, 2, 0, 1));
    due("2049 pieces with other marks", IAE, Checks.piece(w, 0, 5, 1, 5, 4));
    due("clear", 2048, w.clear());
    due("room again", 1, Checks.piece(w, 0, 5, 1, 5, 1));
  }

  /** "Of several exceptions the first one told is thrown." */
  private static void firstExceptionToldOfPiece() {
    RingWeaver w = triangle(1);
    due("alike, within a piece", IAE, Checks.piece(w, 1, 0, 1, 0, 1));
    due("across, with marks 0", IAE, Checks.piece(w, 1, -1, 1, 1, 0));
    due("across, with marks 4", IAE, Checks.piece(w, 1, -1, 1, 1, 4));
    due("across, to no place", IAE, Checks.piece(w, 1, -1, 1, FAR + 1, 1));
    due("across", ISE, Checks.piece(w, 1, -1, 1, 1, 1));
  }

  /** A call that is refused makes no piece, turns no mark, and leaves the result: nothing else is told of it. */
  private static void refusedPieceChangesNothing() {
    RingWeaver w = triangle(1);
    String before = Checks.overlaid(w, 1);
    due("refused", IAE, Checks.piece(w, 0, 0, 0, 0, 1));
    due("refused", IAE, Checks.piece(w, 0, 0, 4, 0, 4));
    due("refused", IAE, Checks.piece(w, 0, 0, FAR + 1, 0, 1));
    due("refused", ISE, Checks.piece(w, 1, -1, 1, 1, 1));
    due("refused", ISE, Checks.piece(w, 0, 0, 2, 0, 1));
    due("pieces", 3, w.count(0));
    due("the result", before, w.count(3) + " | " + Checks.told(w) + " | " + w.area());
    due("and made again", before, Checks.overlaid(w, 1));
    due("where a refused one was there is no end", 4, Checks.piece(w, 1, -1, 1, -2, 1));
  }

  // ---- Promise 3

  private static void clear() {
    clearWithoutAnything();
    clearWithoutPiecesWithAResult();
    clearWithPiecesWithoutAResult();
    clearWithBoth();
    clearLeavesNothing();
  }

  /** "how many pieces there were": none. */
  private static void clearWithoutAnything() {
    RingWeaver w = new RingWeaver();
    due("clear of nothing", 0, w.clear());
    due("clear of nothing again", 0, w.clear());
    due("pieces", 0, w.count(0));
    Checks.noResult("behind clear of nothing", w);
  }

  /** "no result": an empty one goes too. */
  private static void clearWithoutPiecesWithAResult() {
    RingWeaver w = new RingWeaver();
    w.overlay(1);
    due("an empty result", 6, Checks.plan(w, 0));
    due("clear of an empty result", 0, w.clear());
    Checks.noResult("behind clear of an empty result", w);
  }

  /** "No pieces": with marks or without. */
  private static void clearWithPiecesWithoutAResult() {
    RingWeaver w = triangle(3);
    w.piece(0, 0, 4, 0, 3);
    due("clear", 3, w.clear());
    due("pieces", 0, w.count(0));
    Checks.noResult("behind clear", w);
    due("clear again", 0, w.clear());
  }

  /** "No pieces, no result". */
  private static void clearWithBoth() {
    RingWeaver w = triangle(3);
    w.overlay(0);
    due("clear", 3, w.clear());
    due("pieces", 0, w.count(0));
    Checks.noResult("behind clear", w);
  }

  /** What was cleared is neither in the way, nor open, nor there already. */
  private static void clearLeavesNothing() {
    RingWeaver w = new RingWeaver();
    w.piece(0, 0, 4, 0, 1);
    due("open", ISE, Checks.overlay(w, 1));
    w.clear();
    due("closed", EMPTY, Checks.overlaid(w, 1));
    due("not in the way", 1, Checks.piece(w, 1, -1, 1, 9, 1));
    w.clear();
    due("no mark of it is left to be gone", "1 | 6 1 3 1 4 | 0,0 4,0 0,4 0,0 | 16",
        Checks.overlaid(Checks.line(w, 1, 0, 0, 4, 0, 0, 4), 2));
  }

  // ---- Promise 4

  private static void overlay() {
    whatsThatThereAre();
    anotherWhat();
    drawingThatIsNotClosed();
    moreThan2048Corners();
    firstExceptionToldOfOverlay();
    emptyResults();
    resultTakesThePlaceOfAnother();
    asMuchAsTheCallsAllow();
  }

  /** "THE RESULT of 0 BOTH .. 1 EITHER; 2 FIRST .. 3 ONE .. 4 SECOND". */
  private static void whatsThatThereAre() {
    RingWeaver w = new RingWeaver();
    Checks.line(w, 1, 0, 0, 2, 0, 4, 0, 4, 4, 2, 4, 0, 4);
    Checks.line(w, 2, 2, 0, 4, 0, 7, 0, 7, 4, 4, 4, 2, 4);
    long[] due = {16, 56, 16, 40, 24};
    for (int what = 0; what <= 4; what++) {
      due("polygons of overlay " + what, what == 3 ? 2 : 1, Checks.overlay(w, what));
      due("area of overlay " + what, due[what], w.area());
    }
  }

  /** "IllegalArgumentException, for another what .. (in these cases there is no result then)". */
  private static void anotherWhat() {
    RingWeaver w = triangle(1);
    for (int bad : new int[] {MIN, -2, -1, 5, 6, 7, MAX}) {
      w.overlay(1);
      due("overlay " + bad, IAE, Checks.overlay(w, bad));
      Checks.noResult("behind overlay " + bad, w);
      due("the pieces stay", 3, w.count(0));
    }
    due("they bound what they did", 1, Checks.overlay(w, 1));
  }

  /** "IllegalStateException, when a drawing is not closed .. (in these cases there is no result then)". */
  private static void drawingThatIsNotClosed() {
    for (int marks = 1; marks <= 3; marks++) {
      RingWeaver w = triangle(3);
      w.piece(9, 9, 9, 8, marks);
      for (int what = 0; what <= 4; what++) {
        due("marks " + marks + " open, overlay " + what, ISE, Checks.overlay(w, what));
        Checks.noResult("behind marks " + marks + " open", w);
      }
      due("the pieces stay", 4, w.count(0));
      w.piece(9, 9, 9, 8, marks);
      due("closed again", 1, Checks.overlay(w, 0));
    }
  }

  /**
   * "UnsupportedOperationException, when it has more than 2048 corners or plan numbers (in these cases there is no
   * result then)". It needs more calls than are promised; a ring has more corners than a polygon of it has plan
   * numbers, so that these alone can't be too many.
   */
  private static void moreThan2048Corners() {
    RingWeaver w = new RingWeaver();
    for (int i = 0; i < 511; i++) {
      Checks.line(w, 1, 3 * i, 0, 3 * i + 1, 0, 3 * i, 1);
    }
    Checks.line(w, 2, 0, 10, 1, 10, 0, 11);
    due("512 triangles", 512, Checks.overlay(w, 1));
    due("2048 corners", 2048, w.count(2));
    due("1538 numbers", 1538, w.count(1));
    due("the last corner", 3 * 510, Checks.ordinate(w, 2047, 0));
    due("one behind it", IOOBE, Checks.ordinate(w, 2048, 0));
    w.piece(1, 10, 0, 11, 2);
    Checks.line(w, 2, 1, 10, 1, 11, 0, 11);
    w.piece(0, 11, 1, 10, 2);
    due("2049 corners", UOE, Checks.overlay(w, 1));
    Checks.noResult("behind 2049 corners", w);
    due("2049 corners of one", UOE, Checks.overlay(w, 3));
    due("2044 corners", 511, Checks.overlay(w, 2));
    due("the 5 alone", "1 | 6 1 3 1 5 | 0,10 1,10 1,11 0,11 0,10 | 2", Checks.overlaid(w, 4));
    due("the pieces stay", 1538, w.count(0));
  }

  /** "Of several exceptions the first one told is thrown." */
  private static void firstExceptionToldOfOverlay() {
    RingWeaver w = new RingWeaver();
    w.piece(0, 0, 1, 0, 1);
    due("another what of an open drawing", IAE, Checks.overlay(w, 5));
    due("another what of an open drawing", IAE, Checks.overlay(w, -1));
    for (int i = 0; i < 513; i++) {
      Checks.line(w, 1, 3 * i, 2, 3 * i + 1, 2, 3 * i, 3);
    }
    due("open, and too many corners", ISE, Checks.overlay(w, 1));
    w.piece(0, 0, 1, 0, 1);
    due("another what, and too many corners", IAE, Checks.overlay(w, 5));
    due("too many corners", UOE, Checks.overlay(w, 1));
  }

  /** "how many polygons it has": none is a result too, told as 6, 0. */
  private static void emptyResults() {
    RingWeaver w = triangle(1);
    for (int what : new int[] {0, 4}) {
      due("empty, overlay " + what, EMPTY, Checks.overlaid(w, what));
      due("its numbers", 2, w.count(1));
      due("its corners", 0, w.count(2));
      due("its first number", 6, Checks.plan(w, 0));
      due("its last number", 0, Checks.plan(w, 1));
      due("one behind", IOOBE, Checks.plan(w, 2));
      due("no corner", IOOBE, Checks.ordinate(w, 0, 0));
    }
    RingWeaver alike = triangle(3);
    for (int what = 2; what <= 4; what++) {
      due("alike, overlay " + what, EMPTY, Checks.overlaid(alike, what));
    }
  }

  /** "Makes a result": nothing of the one before is left, nor are pieces changed by it. */
  private static void resultTakesThePlaceOfAnother() {
    RingWeaver w = Checks.square(triangle(2), 1, 10, 10, 4);
    Checks.square(w, 1, 11, 11, 1);
    due("two polygons, a hole", 2, Checks.overlay(w, 1));
    due("numbers", 9, w.count(1));
    due("corners", 14, w.count(2));
    due("the last corner", 11, Checks.ordinate(w, 13, 1));
    due("the triangle alone", "1 | 6 1 3 1 4 | 0,0 4,0 0,4 0,0 | 16", Checks.overlaid(w, 4));
    due("a number of the one before", IOOBE, Checks.plan(w, 5));
    due("a corner of the one before", IOOBE, Checks.ordinate(w, 4, 0));
    due("nothing", EMPTY, Checks.overlaid(w, 0));
    due("a corner of the one before", IOOBE, Checks.ordinate(w, 0, 1));
    due("pieces", 23, w.count(0));
    due("the square with the hole", 30L, overlaidArea(w, 2));
    due("all of it again", 46L, overlaidArea(w, 3));
  }

  private static long overlaidArea(RingWeaver w, int what) {
    w.overlay(what);
    return w.area();
  }

  /** "An object is used for at most 512 calls": nearly all of them for pieces. */
  private static void asMuchAsTheCallsAllow() {
    RingWeaver w = new RingWeaver();
    for (int i = 0; i < 169; i++) {
      Checks.line(w, 1 + i % 3, 3 * i, 0, 3 * i + 1, 0, 3 * i, 1);
    }
    due("169 triangles", 169, Checks.overlay(w, 1));
    due("their corners", 676, w.count(2));
    due("the last corner", 3 * 168, Checks.ordinate(w, 675, 0));
    RingWeaver teeth = new RingWeaver();
    for (int i = 0; i < 252; i++) {
      teeth.piece(i, i % 2, i + 1, (i + 1) % 2, 1);
      teeth.piece(i, i % 2 + 3, i + 1, (i + 1) % 2 + 3, 1);
    }
    due("two lines, open", ISE, Checks.overlay(teeth, 1));
    teeth.piece(0, 0, 0, 3, 1);
    due("pieces", 506, Checks.piece(teeth, 252, 0, 252, 3, 1));
    due("closed", 1, Checks.overlay(teeth, 1));
    due("its corners", 507, teeth.count(2));
    due("its area", 2L * 3 * 252, teeth.area());
  }

  /** "CLOSED, when of the pieces that bound it an even number ends at every place". */
  private static void closed() {
    RingWeaver two = new RingWeaver();
    two.piece(0, 0, 4, 0, 1);
    two.piece(4, 0, 0, 4, 1);
    due("one at two places", ISE, Checks.overlay(two, 1));
    two.piece(0, 4, 0, 0, 1);
    due("two everywhere", 1, Checks.overlay(two, 1));
    two.piece(4, 0, 4, 4, 1);
    two.piece(4, 4, 0, 4, 1);
    due("three at two places, one nowhere", ISE, Checks.overlay(two, 1));
    two.piece(4, 0, 0, 4, 1);
    due("two everywhere, none of the piece within", "1 | 6 1 3 1 5 | 0,0 4,0 4,4 0,4 0,0 | 32", Checks.overlaid(two, 1));
    RingWeaver four = Checks.line(triangle(1), 1, 0, 0, -4, 0, 0, -4);
    due("four at a place", 2, Checks.overlay(four, 1));
    RingWeaver mixed = new RingWeaver();
    mixed.piece(0, 0, 4, 0, 1);
    mixed.piece(4, 0, 0, 4, 2);
    mixed.piece(0, 4, 0, 0, 3);
    due("even only of both drawings together", ISE, Checks.overlay(mixed, 1));
    RingWeaver apart = Checks.line(triangle(1), 2, 0, 0, 4, 0, 4, -4);
    due("each for itself, a piece of both between", 1, Checks.overlay(apart, 1));
  }

  // ---- The terms of promise 4

  private static void terms() {
    lessByXThenByY();
    insideABitUpwards();
    boundaryHasJustOneSide();
    areasDoNotHangTogetherByPlaces();
    placeThatComesAgain();
    placeThatComesMoreOften();
    cornersAreNotStraight();
    leastCornerFirstAndLast();
    shellsGoLeftRound();
    holeBelongsToTheSmallestShell();
    holeWithACornerOnAShell();
    orderOfPolygons();
    orderOfHoles();
  }

  /** "one is LESS than another, if its x is, or, of equal ones, its y": not y before x. */
  private static void lessByXThenByY() {
    RingWeaver w = Checks.line(new RingWeaver(), 1, 0, 9, 0, 5, 3, -7, 5, 6);
    due("the least by x, of two by y", "1 | 6 1 3 1 5 | 0,5 3,-7 5,6 0,9 0,5 | 83", Checks.overlaid(w, 1));
    RingWeaver below = Checks.line(new RingWeaver(), 1, -1, 0, -2, 9, 4, 4, 3, -4);
    due("less than nothing", "1 | 6 1 3 1 5 | -2,9 -1,0 3,-4 4,4 -2,9 | 85", Checks.overlaid(below, 1));
  }

  /**
   * "a line from there, straight to the right and a bit upwards .. crosses an odd number": ends and level pieces at
   * the height where it starts count neither twice nor once too often.
   */
  private static void insideABitUpwards() {
    RingWeaver peaks = Checks.line(new RingWeaver(), 1, 0, -1, 0, 1, -1, 1, -1, -1);
    Checks.line(peaks, 2, 2, 0, 4, -3, 6, 0, 8, 3);
    Checks.line(peaks, 2, 10, 0, 12, 4, 14, 0);
    Checks.line(peaks, 2, 16, 0, 18, -4, 20, 0);
    due("ends to the right, none about it", 4L, overlaidArea(peaks, 2));
    due("none in both", 0L, overlaidArea(peaks, 0));
    RingWeaver within = Checks.line(new RingWeaver(), 1, 1, 0, 2, -1, 3, 0, 2, 1);
    Checks.line(within, 2, 0, 0, 5, -5, 6, 0, 8, -1, 9, 0, 5, 5);
    due("inside, with ends to the right", 4L, overlaidArea(within, 0));
    due("and none outside", EMPTY, Checks.overlaid(within, 2));
  }

  /** "Its BOUNDARY are the pieces of which just one side is in the result": not those with both sides, nor with none. */
  private static void boundaryHasJustOneSide() {
    RingWeaver beside = Checks.square(Checks.square(new RingWeaver(), 1, 0, 0, 1), 2, 1, 0, 1);
    due("both sides in either", "1 | 6 1 3 1 5 | 0,0 2,0 2,1 0,1 0,0 | 4", Checks.overlaid(beside, 1));
    due("both sides in one", "1 | 6 1 3 1 5 | 0,0 2,0 2,1 0,1 0,0 | 4", Checks.overlaid(beside, 3));
    due("neither in both", EMPTY, Checks.overlaid(beside, 0));
    due("one in first", "1 | 6 1 3 1 5 | 0,0 1,0 1,1 0,1 0,0 | 2", Checks.overlaid(beside, 2));
    due("the other in second", "1 | 6 1 3 1 5 | 1,0 2,0 2,1 1,1 1,0 | 2", Checks.overlaid(beside, 4));
  }

  /** "parts that hang together (not by places alone)". */
  private static void areasDoNotHangTogetherByPlaces() {
    RingWeaver w = Checks.square(Checks.square(new RingWeaver(), 1, 0, 0, 1), 2, 1, 1, 1);
    due("by a place alone", "2 | 6 2 3 1 5 3 1 5 | 0,0 1,0 1,1 0,1 0,0 1,1 2,1 2,2 1,2 1,1 | 4", Checks.overlaid(w, 1));
    Checks.square(w, 2, 1, 0, 1);
    due("by pieces", "1 | 6 1 3 1 7 | 0,0 2,0 2,2 1,2 1,1 0,1 0,0 | 6", Checks.overlaid(w, 1));
  }

  /** "when a place comes again, what was gone since then is a ring (and the way goes on without it)". */
  private static void placeThatComesAgain() {
    RingWeaver touch = Checks.line(new RingWeaver(), 1, 0, 0, 4, 0, 8, 0, 8, 8, 0, 8);
    Checks.line(touch, 1, 4, 0, 6, 3, 2, 3);
    due("a hole at a side", "1 | 6 1 3 2 5 4 | 0,0 8,0 8,8 0,8 0,0 2,3 6,3 4,0 2,3 | 116", Checks.overlaid(touch, 1));
    RingWeaver split = Checks.line(new RingWeaver(), 1, 0, 0, 4, 0, 8, 0, 8, 8, 4, 8, 0, 8);
    Checks.line(split, 1, 4, 0, 6, 4, 4, 8, 2, 4);
    due("at two sides: two areas", "2 | 6 2 3 1 6 3 1 6 | 0,0 4,0 2,4 4,8 0,8 0,0 4,0 8,0 8,8 4,8 6,4 4,0 | 96", Checks.overlaid(split, 1));
    RingWeaver chain = Checks.square(new RingWeaver(), 1, 0, 0, 5);
    for (int i = 1; i <= 3; i++) {
      Checks.square(chain, 1, i, i, 1);
    }
    due("holes in a row", "1 | 6 1 3 4 5 5 5 5 | 0,0 5,0 5,5 0,5 0,0 1,1 1,2 2,2 2,1 1,1 2,2 2,3 3,3 3,2 2,2 3,3 3,4 4,4 4,3 3,3 | 44",
        Checks.overlaid(chain, 1));
  }

  /** The same place a third and a fourth time: each time a ring more. */
  private static void placeThatComesMoreOften() {
    RingWeaver w = Checks.line(new RingWeaver(), 1, -9, 0, 0, 0, 9, 0, 9, 9, -9, 9);
    Checks.line(w, 1, 0, 0, 4, 1, 4, 3);
    Checks.line(w, 1, 0, 0, 1, 4, -1, 4);
    Checks.line(w, 1, 0, 0, -4, 3, -4, 1);
    due("three holes at one place of the shell", "1 | 6 1 3 4 5 4 4 4 |"
        + " -9,0 9,0 9,9 -9,9 -9,0 -4,1 -4,3 0,0 -4,1 -1,4 1,4 0,0 -1,4 0,0 4,3 4,1 0,0 | 300", Checks.overlaid(w, 2));
    RingWeaver fan = Checks.line(new RingWeaver(), 2, 0, 0, 4, 1, 4, 3);
    Checks.line(fan, 2, 0, 0, 1, 4, -1, 4);
    Checks.line(fan, 2, 0, 0, -4, 3, -4, 1);
    due("three shells at one place", "3 | 6 3 3 1 4 3 1 4 3 1 4 |"
        + " -4,1 0,0 -4,3 -4,1 -1,4 0,0 1,4 -1,4 0,0 4,1 4,3 0,0 | 24", Checks.overlaid(fan, 4));
  }

  /** "those that do not lie straight between the one before and the one behind". */
  private static void cornersAreNotStraight() {
    RingWeaver w = Checks.square(new RingWeaver(), 1, 0, 0, 3);
    due("places within sides", "1 | 6 1 3 1 5 | 0,0 3,0 3,3 0,3 0,0 | 18", Checks.overlaid(w, 1));
    RingWeaver hair = Checks.line(new RingWeaver(), 1, -FAR, -FAR, 0, 1, FAR, FAR, -FAR, FAR);
    due("off the line by a hair", "1 | 6 1 3 1 5 | -500000000,-500000000 0,1 500000000,500000000"
        + " -500000000,500000000 -500000000,-500000000 | 999999999000000000", Checks.overlaid(hair, 1));
    RingWeaver even = Checks.line(new RingWeaver(), 1, -FAR, -FAR, 0, 0, FAR, FAR, -FAR, FAR);
    due("on the line", "1 | 6 1 3 1 4 | -500000000,-500000000 500000000,500000000"
        + " -500000000,500000000 -500000000,-500000000 | 1000000000000000000", Checks.overlaid(even, 1));
  }

  /** "from the least one on .. and the least once more at the end": wherever the pieces began. */
  private static void leastCornerFirstAndLast() {
    int[] round = {0, 0, 5, -2, 7, 3, 2, 6};
    for (int turn = 0; turn < 4; turn++) {
      RingWeaver w = new RingWeaver();
      RingWeaver back = new RingWeaver();
      for (int k = 0; k < 4; k++) {
        int i = 2 * ((turn + k) % 4);
        int j = 2 * ((turn + k + 1) % 4);
        w.piece(round[i], round[i + 1], round[j], round[j + 1], 1);
        back.piece(round[j], round[j + 1], round[i], round[i + 1], 1);
      }
      due("begun at " + turn, "1 | 6 1 3 1 5 | 0,0 5,-2 7,3 2,6 0,0 | 65", Checks.overlaid(w, 1));
      due("begun at " + turn + ", backwards", "1 | 6 1 3 1 5 | 0,0 5,-2 7,3 2,6 0,0 | 65", Checks.overlaid(back, 1));
    }
  }

  /** "It is a SHELL, if it goes left round, else a HOLE." */
  private static void shellsGoLeftRound() {
    RingWeaver w = Checks.line(new RingWeaver(), 1, 0, 0, 0, 9, 9, 9, 9, 0);
    Checks.line(w, 2, 1, 1, 8, 1, 8, 8, 1, 8);
    due("left round the shell, right round the hole", "1 | 6 1 3 2 5 5 | 0,0 9,0 9,9 0,9 0,0 1,1 1,8 8,8 8,1 1,1 | 64", Checks.overlaid(w, 3));
    due("what is in the hole goes left round", "1 | 6 1 3 1 5 | 1,1 8,1 8,8 1,8 1,1 | 98", Checks.overlaid(w, 0));
  }

  /** "a hole belongs to the smallest shell in which it lies .. of those that are larger". */
  private static void holeBelongsToTheSmallestShell() {
    RingWeaver nested = new RingWeaver();
    for (int i = 3; i >= 0; i--) {
      Checks.line(nested, 1, i, i, 20 - i, i, 20 - i, 20 - i, i, 20 - i);
    }
    due("a hole in the outer and in the inner", "2 | 6 2 3 2 5 5 3 2 5 5 |"
        + " 0,0 20,0 20,20 0,20 0,0 1,1 1,19 19,19 19,1 1,1"
        + " 2,2 18,2 18,18 2,18 2,2 3,3 3,17 17,17 17,3 3,3 | 272", Checks.overlaid(nested, 1));
    RingWeaver beside = Checks.line(new RingWeaver(), 1, 0, 0, 9, 0, 9, 9, 0, 9);
    Checks.line(beside, 1, 10, 4, 12, 4, 12, 6, 10, 6);
    Checks.line(beside, 1, 1, 5, 8, 5, 8, 8, 1, 8);
    due("not in a smaller one beside it", "2 | 6 2 3 2 5 5 3 1 5 |"
        + " 0,0 9,0 9,9 0,9 0,0 1,5 1,8 8,8 8,5 1,5 10,4 12,4 12,6 10,6 10,4 | 128", Checks.overlaid(beside, 1));
  }

  /** "(a corner of it that is not on that lies inside of it)": corners on a shell tell nothing. */
  private static void holeWithACornerOnAShell() {
    RingWeaver own = Checks.line(new RingWeaver(), 1, 0, 0, 9, 0, 9, 9, 0, 9);
    Checks.line(own, 1, 0, 0, 5, 2, 2, 5);
    due("its least corner on its own shell", "1 | 6 1 3 2 5 4 | 0,0 9,0 9,9 0,9 0,0 0,0 2,5 5,2 0,0 | 141", Checks.overlaid(own, 1));
    RingWeaver island = Checks.line(new RingWeaver(), 1, 0, 0, 12, 0, 12, 12, 0, 12);
    Checks.line(island, 1, 2, 2, 10, 2, 10, 10, 2, 10);
    Checks.line(island, 1, 2, 2, 8, 3, 8, 8, 3, 8);
    Checks.line(island, 1, 2, 2, 7, 4, 7, 7);
    due("two holes at one corner of a shell, each in its own", "2 | 6 2 3 2 5 5 3 2 5 4 |"
        + " 0,0 12,0 12,12 0,12 0,0 2,2 2,10 10,10 10,2 2,2"
        + " 2,2 8,3 8,8 3,8 2,2 2,2 7,7 7,4 2,2 | 205", Checks.overlaid(island, 1));
    RingWeaver star = Checks.line(new RingWeaver(), 1, 0, 0, 12, 0, 12, 12, 0, 12);
    Checks.line(star, 1, 2, 2, 10, 2, 10, 10, 2, 10);
    Checks.line(star, 1, 2, 2, 6, 5, 10, 2, 7, 6, 10, 10, 6, 7, 2, 10, 5, 6);
    due("every corner on a shell that lies in it", "2 | 6 2 3 2 5 5 3 1 9 |"
        + " 0,0 12,0 12,12 0,12 0,0 2,2 2,10 10,10 10,2 2,2"
        + " 2,2 6,5 10,2 7,6 10,10 6,7 2,10 5,6 2,2 | 192", Checks.overlaid(star, 1));
  }

  /** "They are in the order of their first corners, of equal ones of their second". */
  private static void orderOfPolygons() {
    RingWeaver w = Checks.line(new RingWeaver(), 1, 5, 0, 6, 0, 5, 1);
    Checks.line(w, 1, 0, 5, 1, 5, 0, 6);
    Checks.line(w, 1, -3, 9, -2, 9, -3, 10);
    Checks.line(w, 1, 0, -5, 1, -5, 0, -4);
    due("by x, of equal ones by y", "4 | 6 4 3 1 4 3 1 4 3 1 4 3 1 4 |"
        + " -3,9 -2,9 -3,10 -3,9 0,-5 1,-5 0,-4 0,-5 0,5 1,5 0,6 0,5 5,0 6,0 5,1 5,0 | 4", Checks.overlaid(w, 1));
    RingWeaver fan = Checks.line(new RingWeaver(), 1, 0, 0, 3, 2, 3, 4);
    Checks.line(fan, 1, 0, 0, 2, -3, 2, -1);
    Checks.line(fan, 1, 0, 0, 3, -1, 3, 1);
    due("by the second corner's x, of equal ones its y", "3 | 6 3 3 1 4 3 1 4 3 1 4 |"
        + " 0,0 2,-3 2,-1 0,0 0,0 3,-1 3,1 0,0 0,0 3,2 3,4 0,0 | 16", Checks.overlaid(fan, 1));
  }

  /** "so are the holes of one". */
  private static void orderOfHoles() {
    RingWeaver w = Checks.line(new RingWeaver(), 1, 0, 0, 3, 2, 3, 4);
    Checks.line(w, 1, 0, 0, 2, -3, 2, -1);
    Checks.line(w, 1, 0, 0, 3, -1, 3, 1);
    Checks.line(w, 1, -9, -9, 9, -9, 9, 9, -9, 9);
    Checks.line(w, 1, -5, 0, -4, 0, -5, 1);
    Checks.line(w, 1, -5, -4, -4, -4, -5, -3);
    due("by the first corner, of equal ones the second", "1 | 6 1 3 6 5 4 4 4 4 4 |"
        + " -9,-9 9,-9 9,9 -9,9 -9,-9 -5,-4 -5,-3 -4,-4 -5,-4 -5,0 -5,1 -4,0 -5,0"
        + " 0,0 2,-1 2,-3 0,0 0,0 3,1 3,-1 0,0 0,0 3,4 3,2 0,0 | 630", Checks.overlaid(w, 1));
  }

  // ---- Promise 5

  /** "Number i of the plan. IndexOutOfBoundsException, when there is none." */
  private static void plan() {
    RingWeaver w = Checks.square(triangle(2), 1, 10, 10, 4);
    Checks.square(w, 1, 11, 11, 1);
    due("no result yet", IOOBE, Checks.plan(w, 0));
    w.overlay(1);
    int[] due = {6, 2, 3, 1, 4, 3, 2, 5, 5};
    for (int i = 0; i < due.length; i++) {
      due("plan " + i, due[i], Checks.plan(w, i));
    }
    for (int bad : new int[] {MIN, -2, -1, 9, 10, 15, 16, 17, 2047, 2048, MAX}) {
      due("plan " + bad, IOOBE, Checks.plan(w, bad));
    }
    due("looked at, it stays", 6, Checks.plan(w, 0));
    w.overlay(0);
    due("first of an empty result", 6, Checks.plan(w, 0));
    due("last of an empty result", 0, Checks.plan(w, 1));
    due("one behind", IOOBE, Checks.plan(w, 2));
    due("one before", IOOBE, Checks.plan(w, -1));
    w.clear();
    due("no result any more", IOOBE, Checks.plan(w, 0));
  }

  // ---- Promise 6

  /** "x (what 0) or y (1) of corner i. IndexOutOfBoundsException, when there is no such corner or what." */
  private static void ordinate() {
    RingWeaver w = Checks.line(new RingWeaver(), 1, -1, FAR, -FAR, 2, FAR, -7);
    due("no result yet", IOOBE, Checks.ordinate(w, 0, 0));
    w.overlay(1);
    int[] due = {-FAR, 2, FAR, -7, -1, FAR, -FAR, 2};
    for (int i = 0; i < due.length; i++) {
      due("ordinate " + i / 2 + ", " + i % 2, due[i], Checks.ordinate(w, i / 2, i % 2));
    }
    for (int bad : new int[] {MIN, -2, -1, 4, 5, 7, 8, 15, 16, 2047, 2048, MAX}) {
      due("ordinate " + bad + ", 0", IOOBE, Checks.ordinate(w, bad, 0));
      due("ordinate " + bad + ", 1", IOOBE, Checks.ordinate(w, bad, 1));
      due("ordinate " + bad + ", 2", IOOBE, Checks.ordinate(w, bad, 2));
    }
    for (int bad : new int[] {MIN, -2, -1, 2, 3, MAX}) {
      for (int i = 0; i < 4; i++) {
        due("ordinate " + i + ", " + bad, IOOBE, Checks.ordinate(w, i, bad));
      }
    }
    w.overlay(0);
    due("no corner of an empty result", IOOBE, Checks.ordinate(w, 0, 0));
    due("no corner of an empty result", IOOBE, Checks.ordinate(w, 0, 1));
    w.overlay(1);
    w.clear();
    due("no result any more", IOOBE, Checks.ordinate(w, 0, 0));
  }

  // ---- Promise 7

  private static void area() {
    areaWithoutAResult();
    smallestArea();
    largestAreas();
    sumsThatLeaveALongOnTheWay();
  }

  /** "(0 without one)". */
  private static void areaWithoutAResult() {
    RingWeaver w = triangle(1);
    due("no result yet", 0L, w.area());
    due("with one", 16L, overlaidArea(w, 1));
    due("asked again", 16L, w.area());
    due("an empty one", 0L, overlaidArea(w, 0));
    w.overlay(1);
    Checks.overlay(w, 5);
    due("behind another what", 0L, w.area());
    w.overlay(1);
    w.piece(0, 0, 4, 0, 1);
    due("behind a piece", 0L, w.area());
    w.piece(0, 0, 4, 0, 1);
    w.overlay(1);
    w.clear();
    due("behind clear", 0L, w.area());
  }

  /** "Twice the area": a triangle may have half of a square, and holes count against it. */
  private static void smallestArea() {
    RingWeaver w = Checks.line(new RingWeaver(), 1, 0, 0, 1, 0, 0, 1);
    due("half a square", 1L, overlaidArea(w, 1));
    RingWeaver sliver = Checks.line(new RingWeaver(), 1, -FAR, -FAR, FAR, FAR - 1, 1 - FAR, 1 - FAR);
    due("as little, across the plane", 1L, overlaidArea(sliver, 1));
    RingWeaver frame = Checks.line(new RingWeaver(), 1, -1, -1, 6, -1, 6, 6, -1, 6);
    Checks.line(frame, 2, 0, 0, 5, 0, 5, 5, 0, 5);
    due("less a hole", 48L, overlaidArea(frame, 2));
  }

  /** The largest areas that places allow: all of the plane, whole, halved, and with holes. */
  private static void largestAreas() {
    RingWeaver w = Checks.line(new RingWeaver(), 3, -FAR, -FAR, FAR, -FAR, FAR, FAR, -FAR, FAR);
    String all = "1 | 6 1 3 1 5 | -500000000,-500000000 500000000,-500000000 500000000,500000000"
        + " -500000000,500000000 -500000000,-500000000 | 2000000000000000000";
    due("all of it, both", all, Checks.overlaid(w, 0));
    due("all of it, either", all, Checks.overlaid(w, 1));
    due("none of it, one", EMPTY, Checks.overlaid(w, 3));
    RingWeaver halves = Checks.line(new RingWeaver(), 1, -FAR, -FAR, FAR, -FAR, FAR, FAR);
    Checks.line(halves, 2, -FAR, -FAR, FAR, FAR, -FAR, FAR);
    due("halves, one", all, Checks.overlaid(halves, 3));
    due("halves, first", 1000000000000000000L, overlaidArea(halves, 2));
    due("halves, second", 1000000000000000000L, overlaidArea(halves, 4));
    Checks.line(w, 2, -FAR, -FAR, FAR, FAR, 0, 1);
    due("a sliver of it", 1000000000L, overlaidArea(w, 3));
    due("all but the sliver", 1999999999000000000L, overlaidArea(w, 0));
    RingWeaver frame = Checks.line(new RingWeaver(), 1, -FAR, -FAR, FAR, -FAR, FAR, FAR, -FAR, FAR);
    Checks.line(frame, 2, 1 - FAR, 1 - FAR, FAR - 1, 1 - FAR, FAR - 1, FAR - 1, 1 - FAR, FAR - 1);
    due("a frame about all of it", 7999999992L, overlaidArea(frame, 2));
    due("what it is about", 1999999992000000008L, overlaidArea(frame, 0));
  }

  /** A line that winds about the plane's middle ten times and back: what it goes round is more than a long holds. */
  private static void sumsThatLeaveALongOnTheWay() {
    int turns = 10;
    int[] in = windingLine(turns, 0);
    int[] out = windingLine(turns, 10);
    int[] places = new int[2 * in.length];
    for (int i = 0; i < in.length; i += 2) {
      places[i] = in[i];
      places[i + 1] = in[i + 1];
      places[places.length - 2 - i] = out[i];
      places[places.length - 1 - i] = out[i + 1];
    }
    BigInteger sum = BigInteger.ZERO;
    for (int i = 0; i < places.length; i += 2) {
      int j = (i + 2) % places.length;
      sum = sum.add(product(places[i], places[j + 1])).subtract(product(places[j], places[i + 1]));
    }
    RingWeaver w = Checks.line(new RingWeaver(), 1, places);
    due("the winding line", 1, Checks.overlay(w, 1));
    due("its corners", 8 * turns + 1, w.count(2));
    due("its area", sum.abs(), w.area());
    due("it is not all of the plane", true, w.area() < 1000000000000L);
  }

  /** Four corners a turn, left round, each turn 20 farther in; all of it so much within as is told. */
  private static int[] windingLine(int turns, int within) {
    int[] line = new int[8 * turns];
    int left = FAR;
    for (int t = 0; t < turns; t++) {
      int far = FAR - 20 * t - within;
      int[] turn = {-left, -far, far, -far, far, far, -far, far};
      System.arraycopy(turn, 0, line, 8 * t, 8);
      left = far;
    }
    return line;
  }

  private static BigInteger product(int a, int b) {
    return BigInteger.valueOf((long) a * b);
  }

  // ---- Promise 8

  /** "Pieces (0), numbers of the plan (1), corners (2), polygons (3). NONE for another what." */
  private static void count() {
    RingWeaver w = Checks.square(triangle(2), 1, 10, 10, 4);
    Checks.square(w, 1, 11, 11, 1);
    int[] without = {23, 0, 0, 0};
    int[] with = {23, 9, 14, 2};
    int[] empty = {23, 2, 0, 0};
    for (int what = 0; what < 4; what++) {
      due("without a result: count " + what, without[what], w.count(what));
    }
    w.overlay(3);
    for (int what = 0; what < 4; what++) {
      due("count " + what, with[what], w.count(what));
    }
    for (int bad : new int[] {MIN, -2, -1, 4, 5, 2048, MAX}) {
      due("count " + bad, RingWeaver.NONE, w.count(bad));
      due("count " + bad + " of a new one", -1, new RingWeaver().count(bad));
    }
    w.overlay(0);
    for (int what = 0; what < 4; what++) {
      due("of an empty result: count " + what, empty[what], w.count(what));
    }
    due("looking changes nothing", "6 0 |", Checks.told(w));
  }
}
