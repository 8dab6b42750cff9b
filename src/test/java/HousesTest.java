/** Promises 5 to 8: take, back, count, found. */
public final class HousesTest {
  private static final Due due = new Due();

  public static void main(String[] args) {
    takeUppermost();
    takeWrong();
    backToHamper();
    backWrong();
    countEdges();
    countLosesEarliestTaken();
    countLooksAtTheLastTaking();
    countOfOneHouseAndKind();
    countWrong();
    foundIsFoul();
    foundWrong();
    due.end();
  }

  private static Undermost withPieces(int kind, int many) {
    Undermost x = new Undermost();
    for (int i = 0; i < many; i++) {
      x.buy(kind, 30);
    }
    return x;
  }

  /** Promise 5. */
  private static void takeUppermost() {
    Undermost x = withPieces(1, 3);
    x.buy(0, 30);
    due.is("take(2, 1)", x.take(2, 1), 2);
    due.is("taken: state", x.ofPiece(2, 1), 1);
    due.is("taken: uses", x.ofPiece(2, 2), 1);
    due.is("taken: wear", x.ofPiece(2, 3), 0);
    due.is("taken: house", x.ofPiece(2, 8), 2);
    due.is("taken: place on the shelf", x.ofPiece(2, 9), -1);
    due.is("taken: place in the hamper", x.ofPiece(2, 10), -1);
    due.is("shelf(1) without it", x.shelf(1), "1 0");
    due.is("at(2, 1)", x.at(2, 1), 1);
    due.is("take(0, 1)", x.take(0, 1), 1);
    due.is("take(2, 1) again", x.take(2, 1), 0);
    due.is("the shelf is empty", x.shelf(1), "-");
    due.is("at(2, 1) of two", x.at(2, 1), 2);
    due.is("at(0, 1)", x.at(0, 1), 1);
    due.refuses(x, "take(2, 1) of an empty shelf", Due.STATE, () -> x.take(2, 1));
    due.is("another kind's shelf", x.take(2, 0), 3);
  }

  private static void takeWrong() {
    Undermost x = withPieces(0, 2);
    due.refuses(x, "take(3, 0)", Due.INDEX, () -> x.take(3, 0));
    due.refuses(x, "take(-1, 0)", Due.INDEX, () -> x.take(-1, 0));
    due.refuses(x, "take(0, 3)", Due.INDEX, () -> x.take(0, 3));
    due.refuses(x, "take(0, -1)", Due.INDEX, () -> x.take(0, -1));
    due.refuses(x, "take(3, 1) of an empty shelf", Due.INDEX, () -> x.take(3, 1));
    due.refuses(x, "take(0, 1) of an empty shelf", Due.STATE, () -> x.take(0, 1));
  }

  /** Promise 6. */
  private static void backToHamper() {
    Undermost x = withPieces(0, 3);
    x.take(0, 0);
    x.take(1, 0);
    x.take(1, 0);
    due.is("back(1, 5)", x.back(1, 5), 1);
    due.is("back(2, 0)", x.back(2, 0), 2);
    due.is("back: state", x.ofPiece(1, 1), 2);
    due.is("back: a STAIN of 5", x.ofPiece(1, 5), 5);
    due.is("back: a STAIN of 0", x.ofPiece(2, 5), 0);
    due.is("back: uses", x.ofPiece(1, 2), 1);
    due.is("back: house", x.ofPiece(1, 8), -1);
    due.is("back: first in the hamper", x.ofPiece(1, 10), 0);
    due.is("back: second in the hamper", x.ofPiece(2, 10), 1);
    due.is("back: none on the shelf", x.ofPiece(1, 9), -1);
    due.is("at(1, 0) behind it", x.at(1, 0), 1);
    due.is("at(0, 0) behind it", x.at(0, 0), 0);
    due.is("back(0, 3)", x.back(0, 3), 3);
  }

  private static void backWrong() {
    Undermost x = withPieces(0, 2);
    x.take(0, 0);
    due.refuses(x, "back(2, 0)", Due.INDEX, () -> x.back(2, 0));
    due.refuses(x, "back(-1, 0)", Due.INDEX, () -> x.back(-1, 0));
    due.refuses(x, "back(2, 6)", Due.INDEX, () -> x.back(2, 6));
    due.refuses(x, "back(1, 6)", Due.ARGUMENT, () -> x.back(1, 6));
    due.refuses(x, "back(1, -1)", Due.ARGUMENT, () -> x.back(1, -1));
    due.refuses(x, "back(0, 6) of a clean one", Due.ARGUMENT, () -> x.back(0, 6));
    due.refuses(x, "back(0, 0) of a clean one", Due.STATE, () -> x.back(0, 0));
    x.back(1, 1);
    due.refuses(x, "back(1, 0) of a foul one", Due.STATE, () -> x.back(1, 0));
    x.take(0, 0);
    x.count(0, 0, 0);
    due.refuses(x, "back(0, 0) of a lost one", Due.STATE, () -> x.back(0, 0));
  }

  /** Promise 7. */
  private static void countEdges() {
    Undermost x = withPieces(2, 3);
    due.is("count of none", x.count(0, 2, 0), 0);
    x.take(0, 2);
    x.take(0, 2);
    due.is("as many as it should have", x.count(0, 2, 2), 0);
    due.is("none is lost", x.store(5), 0);
    due.is("counted 0", x.count(0, 2, 0), 2);
    due.is("two are lost", x.store(5), 2);
    due.is("lost: state", x.ofPiece(2, 1), 4);
    due.is("lost: house", x.ofPiece(2, 8), -1);
    due.is("lost: uses", x.ofPiece(2, 2), 1);
    due.is("lost: stain", x.ofPiece(2, 5), 0);
    due.is("lost: none on the shelf", x.ofPiece(2, 9), -1);
    due.is("lost: none in the hamper", x.ofPiece(2, 10), -1);
    due.is("at(0, 2) behind it", x.at(0, 2), 0);
    due.is("count behind it", x.count(0, 2, 0), 0);
  }

  private static void countLosesEarliestTaken() {
    Undermost x = withPieces(0, 4);
    for (int i = 0; i < 4; i++) {
      x.take(1, 0);
    }
    due.is("one is missing", x.count(1, 0, 3), 1);
    due.is("3 was taken first", x.ofPiece(3, 1), 4);
    due.is("2 is there", x.ofPiece(2, 1), 1);
    due.is("two are missing", x.count(1, 0, 1), 2);
    due.is("2 is lost", x.ofPiece(2, 1), 4);
    due.is("1 is lost", x.ofPiece(1, 1), 4);
    due.is("0 was taken last", x.ofPiece(0, 1), 1);
  }

  private static void countLooksAtTheLastTaking() {
    Undermost x = withPieces(0, 2);
    x.take(0, 0);
    x.take(0, 0);
    x.back(1, 0);
    x.wash(0);
    x.take(0, 0);
    due.is("one is missing", x.count(0, 0, 1), 1);
    due.is("0, taken once and earlier, is lost", x.ofPiece(0, 1), 4);
    due.is("1, taken again, is there", x.ofPiece(1, 1), 1);
  }

  private static void countOfOneHouseAndKind() {
    Undermost x = withPieces(0, 2);
    x.buy(1, 30);
    x.buy(1, 30);
    x.take(0, 0);
    x.take(1, 0);
    x.take(0, 1);
    x.take(1, 1);
    due.is("count(1, 1, 0)", x.count(1, 1, 0), 1);
    due.is("of house 1 and kind 1", x.ofPiece(2, 1), 4);
    due.is("not of house 0", x.ofPiece(3, 1), 1);
    due.is("not of kind 0", x.ofPiece(0, 1), 1);
    due.is("not of both", x.ofPiece(1, 1), 1);
  }

  private static void countWrong() {
    Undermost x = withPieces(0, 2);
    x.take(0, 0);
    due.refuses(x, "count(3, 0, 0)", Due.INDEX, () -> x.count(3, 0, 0));
    due.refuses(x, "count(-1, 0, 0)", Due.INDEX, () -> x.count(-1, 0, 0));
    due.refuses(x, "count(0, 3, 0)", Due.INDEX, () -> x.count(0, 3, 0));
    due.refuses(x, "count(0, -1, 0)", Due.INDEX, () -> x.count(0, -1, 0));
    due.refuses(x, "count(3, 0, -1)", Due.INDEX, () -> x.count(3, 0, -1));
    due.refuses(x, "count(0, 3, -1)", Due.INDEX, () -> x.count(0, 3, -1));
    due.refuses(x, "count(0, 0, -1)", Due.ARGUMENT, () -> x.count(0, 0, -1));
    due.refuses(x, "count(0, 0, 2)", Due.ARGUMENT, () -> x.count(0, 0, 2));
    due.refuses(x, "count(1, 0, 1)", Due.ARGUMENT, () -> x.count(1, 0, 1));
    due.refuses(x, "count(0, 0, min)", Due.ARGUMENT, () -> x.count(0, 0, Integer.MIN_VALUE));
    due.refuses(x, "count(0, 0, max)", Due.ARGUMENT, () -> x.count(0, 0, Integer.MAX_VALUE));
  }

  /** Promise 8. */
  private static void foundIsFoul() {
    Undermost x = withPieces(0, 3);
    x.take(0, 0);
    x.take(0, 0);
    x.take(1, 0);
    x.back(0, 1);
    x.count(0, 0, 0);
    due.is("found(1)", x.found(1), 2);
    due.is("found(2)", x.found(2), 3);
    due.is("found: state", x.ofPiece(1, 1), 2);
    due.is("found: stain", x.ofPiece(1, 5), 5);
    due.is("found: house", x.ofPiece(1, 8), -1);
    due.is("found: place in the hamper", x.ofPiece(1, 10), 1);
    due.is("found: uses", x.ofPiece(1, 2), 1);
    due.is("found: none lost any more", x.store(5), 0);
  }

  private static void foundWrong() {
    Undermost x = withPieces(0, 2);
    x.take(0, 0);
    due.refuses(x, "found(2)", Due.INDEX, () -> x.found(2));
    due.refuses(x, "found(-1)", Due.INDEX, () -> x.found(-1));
    due.refuses(x, "found(0) of a clean one", Due.STATE, () -> x.found(0));
    due.refuses(x, "found(1) of a used one", Due.STATE, () -> x.found(1));
    x.count(0, 0, 0);
    x.found(1);
    due.refuses(x, "found(1) of a foul one", Due.STATE, () -> x.found(1));
  }
}
