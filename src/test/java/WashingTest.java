/** Promises 9 and 10: wash, mend. */
public final class WashingTest {
  private static final Due due = new Due();

  public static void main(String[] args) {
    washEmptyHamper();
    washFewerThanFour();
    washFirstFour();
    washByProgramme();
    washToRag();
    washToShelfInOrder();
    washWrong();
    mendFoulAndClean();
    mendLimit();
    mendWrong();
    due.end();
  }

  /** So many pieces of kind 0, all foul, in the order of their numbers. */
  private static Undermost withFoul(int many, int life, int stain) {
    Undermost x = new Undermost();
    for (int i = 0; i < many; i++) {
      x.buy(0, life);
    }
    for (int i = 0; i < many; i++) {
      x.take(0, 0);
    }
    for (int i = 0; i < many; i++) {
      x.back(i, stain);
    }
    return x;
  }

  private static String hamper(Undermost x) {
    StringBuilder row = new StringBuilder();
    for (int place = 0; place < x.store(3); place++) {
      for (int piece = 0; piece < x.store(0); piece++) {
        if (x.ofPiece(piece, 10) == place) {
          row.append(' ').append(piece);
        }
      }
    }
    return row.toString();
  }

  private static void isPiece(Undermost x, int piece, int state, int wear, int stain, int washed) {
    due.is("state of " + piece, x.ofPiece(piece, 1), state);
    due.is("wear of " + piece, x.ofPiece(piece, 3), wear);
    due.is("stain of " + piece, x.ofPiece(piece, 5), stain);
    due.is("washes of " + piece, x.ofPiece(piece, 6), washed);
  }

  /** Promise 9. */
  private static void washEmptyHamper() {
    Undermost x = new Undermost();
    due.is("wash of an empty hamper", x.wash(3), 0);
    due.is("it was called", x.store(6), 1);
  }

  private static void washFewerThanFour() {
    Undermost x = withFoul(3, 30, 2);
    x.wash(0);
    isPiece(x, 0, 2, 1, 1, 1);
    isPiece(x, 2, 2, 1, 1, 1);
    due.is("hamper in its order", hamper(x), " 0 1 2");
    due.is("wash(0), each once", x.wash(0), 3);
    isPiece(x, 0, 0, 2, 0, 2);
    isPiece(x, 2, 0, 2, 0, 2);
    due.is("hamper is empty", hamper(x), "");
  }

  private static void washFirstFour() {
    Undermost x = withFoul(6, 30, 2);
    due.is("wash(0) of six", x.wash(0), 0);
    due.is("the four are behind", hamper(x), " 4 5 0 1 2 3");
    isPiece(x, 3, 2, 1, 1, 1);
    isPiece(x, 4, 2, 0, 2, 0);
    due.is("wash(0) again", x.wash(0), 2);
    due.is("0 and 1 are clean", hamper(x), " 2 3 4 5");
    due.is("shelf", x.shelf(0), "1 0");
    due.is("wash(0) of just four", x.wash(0), 4);
    due.is("shelf of all", x.shelf(0), "5 4 3 2 1 0");
    due.is("three calls", x.store(6), 3);
  }

  private static void washByProgramme() {
    for (int programme = 0; programme <= 3; programme++) {
      Undermost x = withFoul(1, 30, 5);
      due.is("wash by " + programme, x.wash(programme), 0);
      isPiece(x, 0, 2, 1 + programme, 4 - programme, 1);
      x = withFoul(1, 30, programme + 1);
      due.is("wash by " + programme + " of as much stain", x.wash(programme), 1);
      isPiece(x, 0, 0, 1 + programme, 0, 1);
      x = withFoul(1, 30, 0);
      due.is("wash by " + programme + " without stain", x.wash(programme), 1);
      isPiece(x, 0, 0, 1 + programme, 0, 1);
    }
  }

  private static void washToRag() {
    Undermost x = withFoul(1, 10, 5);
    x.wash(3);
    x.wash(3);
    x.take(0, 0);
    x.back(0, 5);
    due.is("wear of 9", x.wash(0), 0);
    isPiece(x, 0, 2, 9, 4, 3);
    due.is("wear of 10, the life", x.wash(0), 0);
    isPiece(x, 0, 3, 10, 3, 4);
    due.is("a rag is not in the hamper", hamper(x), "");
    due.is("a rag is on no shelf", x.shelf(0), "-");
    due.is("a rag has no place on the shelf", x.ofPiece(0, 9), -1);
    due.is("a rag is washed no more", x.wash(3), 0);
    isPiece(x, 0, 3, 10, 3, 4);
    x = withFoul(1, 10, 0);
    for (int i = 0; i < 2; i++) {
      x.wash(3);
      x.take(0, 0);
      x.back(0, 0);
    }
    due.is("more wear than life, without stain", x.wash(3), 0);
    isPiece(x, 0, 3, 12, 0, 3);
  }

  private static void washToShelfInOrder() {
    Undermost x = withFoul(3, 30, 0);
    x.rule(0, true);
    due.is("wash by UNDER", x.wash(0), 3);
    due.is("shelf by UNDER", x.shelf(0), "0 1 2");
    x = withFoul(3, 30, 0);
    x.buy(1, 30);
    x.take(2, 1);
    x.back(3, 0);
    due.is("wash of two kinds", x.wash(1), 4);
    due.is("shelf of kind 0", x.shelf(0), "2 1 0");
    due.is("shelf of kind 1", x.shelf(1), "3");
  }

  private static void washWrong() {
    Undermost x = withFoul(2, 30, 3);
    due.refuses(x, "wash(4)", Due.INDEX, () -> x.wash(4));
    due.refuses(x, "wash(-1)", Due.INDEX, () -> x.wash(-1));
    due.refuses(x, "wash(max)", Due.INDEX, () -> x.wash(Integer.MAX_VALUE));
    due.is("a refused one is no call", x.store(6), 0);
  }

  /** Promise 10. */
  private static void mendFoulAndClean() {
    Undermost x = withFoul(2, 60, 5);
    for (int i = 0; i < 5; i++) {
      x.wash(1);
      if (x.store(3) == 0) {
        x.take(0, 0);
        x.take(0, 0);
        x.back(0, 5);
        x.back(1, 5);
      }
    }
    isPiece(x, 0, 2, 10, 1, 5);
    due.is("mend(0), foul", x.mend(0), 2);
    isPiece(x, 0, 2, 2, 1, 5);
    due.is("life behind it", x.ofPiece(0, 4), 56);
    due.is("mends behind it", x.ofPiece(0, 7), 1);
    due.is("it stays in the hamper", hamper(x), " 0 1");
    due.is("mend(0) again", x.mend(0), 0);
    due.is("life behind two", x.ofPiece(0, 4), 52);
    due.is("mends of all", x.store(7), 2);
    x.wash(3);
    due.is("it stays on the shelf", x.shelf(0), "1 0");
    due.is("mend(0), clean", x.mend(0), 0);
    due.is("it is where it was", x.shelf(0), "1 0");
    due.is("still clean", x.ofPiece(0, 1), 0);
    due.is("life behind three", x.ofPiece(0, 4), 48);
    due.is("1 is not mended", x.ofPiece(1, 7), 0);
    due.is("wear of 1", x.ofPiece(1, 3), 14);
  }

  private static void mendLimit() {
    Undermost x = new Undermost();
    x.buy(0, 12);
    due.is("to a life of 8", x.mend(0), 0);
    due.is("to a life of 4", x.mend(0), 0);
    due.refuses(x, "to a life of 0", Due.STATE, () -> x.mend(0));
    x.buy(1, 13);
    x.mend(1);
    x.mend(1);
    due.is("to a life of 1", x.mend(1), 0);
    due.is("a life of 1", x.ofPiece(1, 4), 1);
    due.refuses(x, "to a life below 0", Due.STATE, () -> x.mend(1));
    x.buy(2, 10);
    x.mend(2);
    x.take(0, 2);
    x.back(2, 1);
    x.wash(1);
    due.is("wear of 2 of 6", x.ofPiece(2, 3), 2);
    due.is("to a life of 2", x.mend(2), 0);
    due.is("wear of 0 of 2", x.ofPiece(2, 3), 0);
    wearAgainstLife();
  }

  /** 8 less of the wear, 4 less of the life: both what is left just below, and just as much. */
  private static void wearAgainstLife() {
    Undermost x = new Undermost();
    x.buy(0, 10);
    for (int i = 0; i < 9; i++) {
      x.take(0, 0);
      x.back(0, 0);
      x.wash(0);
    }
    due.is("wear of 9 of 10, then 1 of 6", x.mend(0), 1);
    for (int i = 0; i < 4; i++) {
      x.take(0, 0);
      x.back(0, 0);
      x.wash(0);
    }
    due.is("wear of 5 of 6, then 0 of 2", x.mend(0), 0);
    due.is("life of 2", x.ofPiece(0, 4), 2);
    due.refuses(x, "a life of -2", Due.STATE, () -> x.mend(0));
  }

  private static void mendWrong() {
    Undermost x = withFoul(2, 10, 0);
    due.refuses(x, "mend(2)", Due.INDEX, () -> x.mend(2));
    due.refuses(x, "mend(-1)", Due.INDEX, () -> x.mend(-1));
    x.wash(3);
    x.take(0, 0);
    due.refuses(x, "mend(1) of a used one", Due.STATE, () -> x.mend(1));
    x.count(0, 0, 0);
    due.refuses(x, "mend(1) of a lost one", Due.STATE, () -> x.mend(1));
    for (int i = 0; i < 2; i++) {
      x.take(0, 0);
      x.back(0, 0);
      x.wash(3);
    }
    due.is("0 is a rag", x.ofPiece(0, 1), 3);
    due.refuses(x, "mend(0) of a rag", Due.STATE, () -> x.mend(0));
  }
}
