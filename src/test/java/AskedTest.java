/** Promises 14 to 19: ofPiece, ofKind, at, ofBooking, store, shelf. */
public final class AskedTest {
  private static final Due due = new Due();

  public static void main(String[] args) {
    Undermost x = busyHouse();
    ofPieceInEachState(x);
    ofPieceWrong(x);
    ofKindOfEach(x);
    ofKindFewerThanNeed();
    ofKindWrong(x);
    atEachHouse(x);
    ofBookingOfEach(x);
    ofBookingWrong(x);
    storeOfAll(x);
    shelfTexts(x);
    due.end();
  }

  /**
   * Pieces 0 to 3 of kind 0: a rag of 3 uses, mended once; lost; used at house 2; foul. Pieces 4 to 6
   * of kind 1: clean. Piece 7 of kind 2: foul.
   */
  private static Undermost busyHouse() {
    Undermost x = new Undermost();
    x.buy(0, 10);
    x.mend(0);
    for (int i = 0; i < 2; i++) {
      x.take(0, 0);
      x.back(0, 3);
      x.wash(3 - 2 * i);
    }
    x.wash(0);
    x.buy(0, 30);
    x.buy(0, 30);
    x.buy(0, 40);
    for (int i = 0; i < 3; i++) {
      x.buy(1, 50);
    }
    x.buy(2, 60);
    x.take(1, 2);
    x.back(7, 4);
    x.take(2, 0);
    x.take(2, 0);
    x.take(1, 0);
    x.back(3, 2);
    x.count(1, 0, 0);
    x.rule(1, true);
    x.book(0, 3, 4);
    x.book(0, 5, 6);
    x.book(2, 90, 20);
    x.drop(1);
    x.knock();
    return x;
  }

  /** Promise 14. */
  private static void ofPieceInEachState(Undermost x) {
    int[][] want = {
      {0, 3, 2, 6, 6, 1, 2, 1, -1, -1, -1},
      {0, 4, 1, 0, 30, 0, 0, 0, -1, -1, -1},
      {0, 1, 1, 0, 30, 0, 0, 0, 2, -1, -1},
      {0, 2, 1, 0, 40, 2, 0, 0, -1, -1, 1},
      {1, 0, 0, 0, 50, 0, 0, 0, -1, 2, -1},
      {1, 0, 0, 0, 50, 0, 0, 0, -1, 1, -1},
      {1, 0, 0, 0, 50, 0, 0, 0, -1, 0, -1},
      {2, 2, 1, 0, 60, 4, 0, 0, -1, -1, 0},
    };
    for (int piece = 0; piece < want.length; piece++) {
      for (int what = 0; what <= 10; what++) {
        due.is("ofPiece(" + piece + ", " + what + ")", x.ofPiece(piece, what), want[piece][what]);
      }
    }
  }

  private static void ofPieceWrong(Undermost x) {
    due.refuses(x, "ofPiece(8, 0)", Due.INDEX, () -> x.ofPiece(8, 0));
    due.refuses(x, "ofPiece(-1, 0)", Due.INDEX, () -> x.ofPiece(-1, 0));
    due.refuses(x, "ofPiece(8, 11)", Due.INDEX, () -> x.ofPiece(8, 11));
    due.refuses(x, "ofPiece(0, 11)", Due.ARGUMENT, () -> x.ofPiece(0, 11));
    due.refuses(x, "ofPiece(0, -1)", Due.ARGUMENT, () -> x.ofPiece(0, -1));
    due.refuses(x, "ofPiece(max, 0)", Due.INDEX, () -> x.ofPiece(Integer.MAX_VALUE, 0));
    due.refuses(x, "ofPiece(min, 0)", Due.INDEX, () -> x.ofPiece(Integer.MIN_VALUE, 0));
  }

  /** Promise 15. */
  private static void ofKindOfEach(Undermost x) {
    int[][] want = {
      {0, -1, -1, 0, 0, 1, 3, 1, 2, 0},
      {3, 6, 4, 1, 0, 0, -1, 0, 3, 0},
      {0, -1, -1, 0, 0, 1, 90, 1, 1, 0},
    };
    for (int kind = 0; kind < 3; kind++) {
      for (int what = 0; what <= 9; what++) {
        due.is("ofKind(" + kind + ", " + what + ")", x.ofKind(kind, what), want[kind][what]);
      }
    }
  }

  private static void ofKindFewerThanNeed() {
    Undermost x = new Undermost();
    x.buy(0, 10);
    x.buy(0, 10);
    x.buy(0, 10);
    x.buy(1, 10);
    for (int i = 0; i < 4; i++) {
      x.book(0, 7, 1);
    }
    due.is("3 for a NEED of 4", x.ofKind(0, 9), 1);
    x.take(0, 0);
    due.is("a used one counts", x.ofKind(0, 9), 1);
    due.is("SPREAD of a clean and a used one", x.ofKind(0, 4), 1);
    x.count(0, 0, 0);
    due.is("a lost one does not count", x.ofKind(0, 9), 2);
    due.is("nor for SPREAD", x.ofKind(0, 4), 0);
    x.found(2);
    due.is("a found one counts", x.ofKind(0, 8), 3);
    due.is("and for SPREAD", x.ofKind(0, 4), 1);
    x.wash(3);
    x.wash(3);
    for (int i = 0; i < 2; i++) {
      x.take(0, 0);
      x.back(2, 0);
      x.wash(0);
    }
    due.is("2 is a rag of 3 uses", x.ofPiece(2, 1) * 10 + x.ofPiece(2, 2), 33);
    due.is("a rag does not count", x.ofKind(0, 8), 2);
    due.is("a rag counts not for SPREAD", x.ofKind(0, 4), 0);
    due.is("2 for a NEED of 4", x.ofKind(0, 9), 2);
    due.is("more than NEED", x.ofKind(1, 9), 0);
  }

  private static void ofKindWrong(Undermost x) {
    due.refuses(x, "ofKind(3, 0)", Due.INDEX, () -> x.ofKind(3, 0));
    due.refuses(x, "ofKind(-1, 0)", Due.INDEX, () -> x.ofKind(-1, 0));
    due.refuses(x, "ofKind(3, 10)", Due.INDEX, () -> x.ofKind(3, 10));
    due.refuses(x, "ofKind(0, 10)", Due.ARGUMENT, () -> x.ofKind(0, 10));
    due.refuses(x, "ofKind(0, -1)", Due.ARGUMENT, () -> x.ofKind(0, -1));
  }

  /** Promise 16. */
  private static void atEachHouse(Undermost x) {
    for (int house = 0; house < 3; house++) {
      for (int kind = 0; kind < 3; kind++) {
        due.is("at(" + house + ", " + kind + ")", x.at(house, kind),
            house == 2 && kind == 0 ? 1 : 0);
      }
    }
    due.refuses(x, "at(3, 0)", Due.INDEX, () -> x.at(3, 0));
    due.refuses(x, "at(-1, 0)", Due.INDEX, () -> x.at(-1, 0));
    due.refuses(x, "at(0, 3)", Due.INDEX, () -> x.at(0, 3));
    due.refuses(x, "at(0, -1)", Due.INDEX, () -> x.at(0, -1));
  }

  /** Promise 17. */
  private static void ofBookingOfEach(Undermost x) {
    int[][] want = {{0, 3, 4, 0, 0, 8}, {0, 5, 6, 1, -1, 12}, {2, 90, 20, 0, 0, 111}};
    for (int booking = 0; booking < 3; booking++) {
      for (int what = 0; what <= 5; what++) {
        due.is("ofBooking(" + booking + ", " + what + ")", x.ofBooking(booking, what),
            want[booking][what]);
      }
    }
  }

  private static void ofBookingWrong(Undermost x) {
    due.refuses(x, "ofBooking(3, 0)", Due.INDEX, () -> x.ofBooking(3, 0));
    due.refuses(x, "ofBooking(-1, 0)", Due.INDEX, () -> x.ofBooking(-1, 0));
    due.refuses(x, "ofBooking(3, 6)", Due.INDEX, () -> x.ofBooking(3, 6));
    due.refuses(x, "ofBooking(0, 6)", Due.ARGUMENT, () -> x.ofBooking(0, 6));
    due.refuses(x, "ofBooking(0, -1)", Due.ARGUMENT, () -> x.ofBooking(0, -1));
  }

  /** Promise 18. */
  private static void storeOfAll(Undermost x) {
    int[] want = {8, 3, 1, 2, 1, 1, 3, 1, 3, 6, 1};
    for (int what = 0; what <= 10; what++) {
      due.is("store(" + what + ")", x.store(what), want[what]);
    }
    due.refuses(x, "store(11)", Due.ARGUMENT, () -> x.store(11));
    due.refuses(x, "store(-1)", Due.ARGUMENT, () -> x.store(-1));
  }

  /** Promise 19. */
  private static void shelfTexts(Undermost x) {
    due.is("an empty shelf", x.shelf(0), "-");
    due.is("three", x.shelf(1), "6 5 4");
    due.refuses(x, "shelf(3)", Due.INDEX, () -> x.shelf(3));
    due.refuses(x, "shelf(-1)", Due.INDEX, () -> x.shelf(-1));
    Undermost y = new Undermost();
    y.buy(2, 10);
    due.is("one", y.shelf(2), "0");
    for (int i = 0; i < 11; i++) {
      y.buy(2, 10);
    }
    due.is("of two signs, too", y.shelf(2), "11 10 9 8 7 6 5 4 3 2 1 0");
    y.take(0, 2);
    y.back(11, 0);
    y.rule(2, true);
    y.wash(0);
    due.is("put back by UNDER", y.shelf(2), "10 9 8 7 6 5 4 3 2 1 0 11");
  }
}
