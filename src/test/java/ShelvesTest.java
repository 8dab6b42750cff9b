/** Promises 1 to 4: a new object, buy, rule, turn. */
public final class ShelvesTest {
  private static final Due due = new Due();

  public static void main(String[] args) {
    newHouse();
    buyNumbers();
    buyLimits();
    buyByRule();
    buyWrong();
    buySixteen();
    ruleAnswers();
    ruleMovesNothing();
    turnPile();
    turnSmallPiles();
    due.end();
  }

  /** Promise 1. */
  private static void newHouse() {
    Undermost x = new Undermost();
    for (int what = 0; what <= 10; what++) {
      due.is("new: store(" + what + ")", x.store(what), 0);
    }
    for (int kind = 0; kind < 3; kind++) {
      due.is("new: shelf", x.shelf(kind), "-");
      int[] want = {0, -1, -1, 0, 0, 0, -1, 0, 0, 0};
      for (int what = 0; what <= 9; what++) {
        due.is("new: ofKind(" + kind + ", " + what + ")", x.ofKind(kind, what), want[what]);
      }
      for (int house = 0; house < 3; house++) {
        due.is("new: at", x.at(house, kind), 0);
      }
    }
    due.refuses(x, "new: ofPiece(0, 0)", Due.INDEX, () -> x.ofPiece(0, 0));
    due.refuses(x, "new: ofBooking(0, 0)", Due.INDEX, () -> x.ofBooking(0, 0));
    due.is("new: isSound()", x.isSound(), true);
    due.is("new: digest()", x.digest(), -8948455417737615449L);
    Undermost other = new Undermost();
    other.buy(0, 10);
    due.is("two houses share nothing", x.store(0), 0);
  }

  /** Promise 2. */
  private static void buyNumbers() {
    Undermost x = new Undermost();
    due.is("buy(0, 10)", x.buy(0, 10), 0);
    due.is("buy(2, 60)", x.buy(2, 60), 1);
    due.is("buy(0, 33)", x.buy(0, 33), 2);
    int[][] want = {
      {0, 0, 0, 0, 10, 0, 0, 0, -1, 1, -1},
      {2, 0, 0, 0, 60, 0, 0, 0, -1, 0, -1},
      {0, 0, 0, 0, 33, 0, 0, 0, -1, 0, -1},
    };
    for (int piece = 0; piece < 3; piece++) {
      for (int what = 0; what <= 10; what++) {
        due.is("bought: ofPiece(" + piece + ", " + what + ")", x.ofPiece(piece, what),
            want[piece][what]);
      }
    }
    due.is("bought: shelf(0)", x.shelf(0), "2 0");
    due.is("bought: shelf(1)", x.shelf(1), "-");
    due.is("bought: shelf(2)", x.shelf(2), "1");
  }

  private static void buyLimits() {
    Undermost x = new Undermost();
    due.refuses(x, "buy(0, 9)", Due.ARGUMENT, () -> x.buy(0, 9));
    due.refuses(x, "buy(0, 61)", Due.ARGUMENT, () -> x.buy(0, 61));
    due.is("buy(0, 10)", x.buy(0, 10), 0);
    due.is("buy(0, 60)", x.buy(0, 60), 1);
    due.is("LIFE of 10", x.ofPiece(0, 4), 10);
    due.is("LIFE of 60", x.ofPiece(1, 4), 60);
  }

  private static void buyByRule() {
    Undermost x = new Undermost();
    x.rule(1, true);
    x.buy(1, 20);
    x.buy(1, 20);
    x.buy(0, 20);
    x.buy(0, 20);
    due.is("bought by UNDER", x.shelf(1), "0 1");
    due.is("bought by TOP", x.shelf(0), "3 2");
    x.rule(1, false);
    x.buy(1, 20);
    due.is("bought by TOP again", x.shelf(1), "4 0 1");
  }

  private static void buyWrong() {
    Undermost x = new Undermost();
    due.refuses(x, "buy(3, 10)", Due.INDEX, () -> x.buy(3, 10));
    due.refuses(x, "buy(-1, 10)", Due.INDEX, () -> x.buy(-1, 10));
    due.refuses(x, "buy(min, 10)", Due.INDEX, () -> x.buy(Integer.MIN_VALUE, 10));
    due.refuses(x, "buy(max, 10)", Due.INDEX, () -> x.buy(Integer.MAX_VALUE, 10));
    due.refuses(x, "buy(3, 9)", Due.INDEX, () -> x.buy(3, 9));
    due.refuses(x, "buy(0, min)", Due.ARGUMENT, () -> x.buy(0, Integer.MIN_VALUE));
    due.refuses(x, "buy(0, max)", Due.ARGUMENT, () -> x.buy(0, Integer.MAX_VALUE));
  }

  private static void buySixteen() {
    Undermost x = new Undermost();
    for (int i = 0; i < 16; i++) {
      due.is("buy one more", x.buy(1, 10), i);
    }
    due.is("16 on a shelf", x.shelf(1), "15 14 13 12 11 10 9 8 7 6 5 4 3 2 1 0");
    due.refuses(x, "the 17th", Due.STATE, () -> x.buy(0, 10));
    due.refuses(x, "the 17th, of no kind", Due.INDEX, () -> x.buy(3, 9));
    due.refuses(x, "the 17th, of no life", Due.ARGUMENT, () -> x.buy(0, 9));
    x.take(0, 1);
    x.count(0, 1, 0);
    due.refuses(x, "the 17th, where one is lost", Due.STATE, () -> x.buy(0, 10));
  }

  /** Promise 3. */
  private static void ruleAnswers() {
    Undermost x = new Undermost();
    due.is("rule(2, false)", x.rule(2, false), false);
    due.is("rule(2, true)", x.rule(2, true), false);
    due.is("rule(2, true) again", x.rule(2, true), true);
    due.is("ofKind(2, 3)", x.ofKind(2, 3), 1);
    due.is("ofKind(1, 3)", x.ofKind(1, 3), 0);
    due.is("rule(1, true), a kind of its own", x.rule(1, true), false);
    due.is("rule(2, false)", x.rule(2, false), true);
    due.is("ofKind(2, 3) by TOP", x.ofKind(2, 3), 0);
    due.refuses(x, "rule(3, true)", Due.INDEX, () -> x.rule(3, true));
    due.refuses(x, "rule(-1, true)", Due.INDEX, () -> x.rule(-1, true));
  }

  private static void ruleMovesNothing() {
    Undermost x = new Undermost();
    x.buy(0, 20);
    x.buy(0, 20);
    x.rule(0, true);
    due.is("the pile stays by a new rule", x.shelf(0), "1 0");
    x.take(0, 0);
    x.back(1, 0);
    x.wash(0);
    due.is("clean again by UNDER", x.shelf(0), "0 1");
    x.rule(0, false);
    x.take(0, 0);
    x.back(0, 0);
    x.wash(0);
    due.is("clean again by TOP", x.shelf(0), "0 1");
  }

  /** Promise 4. */
  private static void turnPile() {
    Undermost x = new Undermost();
    for (int i = 0; i < 5; i++) {
      x.buy(0, 20);
    }
    x.buy(1, 20);
    x.buy(1, 20);
    due.is("turn(0)", x.turn(0), 0);
    due.is("shelf(0) turned", x.shelf(0), "0 1 2 3 4");
    due.is("shelf(1) not turned", x.shelf(1), "6 5");
    due.is("turned: place of 0", x.ofPiece(0, 9), 0);
    due.is("turned: place of 4", x.ofPiece(4, 9), 4);
    due.is("turn(0) again", x.turn(0), 4);
    due.is("shelf(0) as it was", x.shelf(0), "4 3 2 1 0");
    x.take(0, 0);
    due.is("turn(0) of four", x.turn(0), 0);
    due.is("shelf(0) of four", x.shelf(0), "0 1 2 3");
    due.is("a turn is no use", x.store(9), 1);
  }

  private static void turnSmallPiles() {
    Undermost x = new Undermost();
    due.is("turn of an empty shelf", x.turn(2), -1);
    x.buy(2, 20);
    due.is("turn of one", x.turn(2), 0);
    due.is("shelf of one", x.shelf(2), "0");
    due.refuses(x, "turn(3)", Due.INDEX, () -> x.turn(3));
    due.refuses(x, "turn(-1)", Due.INDEX, () -> x.turn(-1));
  }
}
