/** Part 1 of the document at its edges, sentence by sentence: pieces and shelves. */
public final class EdgesOfPiecesTest {
  private static final String STAYS_SO =
      "What is a RAG or LOST stays so, but a LOST one can be FOUND";
  private static final String PUT =
      "A PIECE that becomes CLEAN (as it is bought, too) is put on the pile by TOP, beneath all "
      + "others by UNDER";

  private static final Due due = new Due();

  public static void main(String[] args) {
    threeKinds();
    sixteenPieces();
    ragsAndLostOnesAreOfTheSixteen();
    lifeAsBought();
    lifeBehindBuying();
    allZeroAtFirst();
    inOneStateAtATime();
    ragStaysSo();
    lostStaysSo();
    lostCanBeFound();
    pileOfAllCleanOnes();
    topAtFirst();
    ruleToldTwice();
    putOnEmptyShelf();
    putByEachRule();
    ruleMovesNoPiece();
    ruleOfWhenItBecomesClean();
    ruleOfItsKindAlone();
    turnedUpsideDown();
    turnedTwice();
    turnIsNoRule();
    due.end();
  }

  private static void threeKinds() {
    due.about("KINDS 0 to 2");
    Undermost x = new Undermost();
    for (int kind = 0; kind <= 2; kind++) {
      due.is("buy(" + kind + ", 10)", x.buy(kind, 10), kind);
      due.is("its kind", x.ofPiece(kind, 0), kind);
      due.is("shelf(" + kind + ")", x.shelf(kind), "" + kind);
      due.is("turn(" + kind + ")", x.turn(kind), kind);
      due.is("rule(" + kind + ", true)", x.rule(kind, true), false);
      due.is("take(0, " + kind + ")", x.take(0, kind), kind);
      due.is("book(" + kind + ", 0, 1)", x.book(kind, 0, 1), kind);
    }
    for (int kind : Due.outside(0, 2)) {
      due.refuses(x, "buy(" + kind + ", 10)", Due.INDEX, () -> x.buy(kind, 10));
    }
  }

  private static void sixteenPieces() {
    due.about("PIECES: at most 16, numbered from 0");
    for (int kind = 0; kind <= 2; kind++) {
      int k = kind;
      Undermost x = new Undermost();
      for (int i = 0; i < 16; i++) {
        due.is("buy the next", x.buy(kind, 10 + i), i);
        due.is("PIECES then", x.store(0), i + 1);
      }
      due.refuses(x, "the 17th", Due.STATE, () -> x.buy(k, 10));
      due.refuses(x, "the 17th, of another kind", Due.STATE, () -> x.buy((k + 1) % 3, 60));
      due.is("the 16th", x.ofPiece(15, 4), 25);
      due.is("the first", x.ofPiece(0, 4), 10);
    }
  }

  private static void ragsAndLostOnesAreOfTheSixteen() {
    due.about("PIECES: at most 16, each .. CLEAN, USED, FOUL, a RAG, or LOST");
    Undermost x = Houses.inEachState();
    for (int i = 5; i < 16; i++) {
      due.is("buy the next", x.buy(2, 60), i);
    }
    due.is("a RAG and a LOST one", 10 * x.store(4) + x.store(5), 11);
    due.refuses(x, "the 17th", Due.STATE, () -> x.buy(0, 60));
    x.found(4);
    due.refuses(x, "the 17th, where none is LOST", Due.STATE, () -> x.buy(0, 60));
  }

  private static void lifeAsBought() {
    due.about("with a LIFE (10 to 60 as it is bought)");
    Undermost x = new Undermost();
    int[] lives = {10, 11, 59, 60};
    for (int i = 0; i < lives.length; i++) {
      due.is("buy(1, " + lives[i] + ")", x.buy(1, lives[i]), i);
      due.is("its LIFE", x.ofPiece(i, 4), lives[i]);
    }
    for (int life : new int[] {Integer.MIN_VALUE, -10, 0, 9, 61, Integer.MAX_VALUE}) {
      due.refuses(x, "buy(1, " + life + ")", Due.ARGUMENT, () -> x.buy(1, life));
    }
    due.is("the next number behind the refused ones", x.buy(1, 10), 4);
  }

  private static void lifeBehindBuying() {
    due.about("10 to 60 as it is bought: MENDED, it may be less");
    Undermost x = Houses.withClean(0, 1, 10);
    x.mend(0);
    due.is("LIFE", x.ofPiece(0, 4), 6);
    x.mend(0);
    due.is("LIFE", x.ofPiece(0, 4), 2);
    due.is("it is CLEAN", x.ofPiece(0, 1), 0);
    due.is("isSound()", x.isSound(), true);
  }

  private static void allZeroAtFirst() {
    due.about("USES, WEAR, STAIN, WASHES and MENDS (all 0 at first). A PIECE is CLEAN (at first)");
    Undermost x = Houses.inEachState();
    x.wash(0);
    x.mend(2);
    for (int kind = 0; kind <= 2; kind++) {
      int piece = x.buy(kind, 44);
      due.is("a new one", Houses.piece(x, piece), kind + " 0 0 0 44 0 0 0 -1 0 -1");
    }
  }

  /** How many are CLEAN, USED, FOUL, RAGS and LOST. */
  private static String states(Undermost x) {
    return x.store(1) + " " + x.store(2) + " " + x.store(3) + " " + x.store(4) + " " + x.store(5);
  }

  private static void inOneStateAtATime() {
    due.about("A PIECE is CLEAN (at first), USED, FOUL, a RAG, or LOST.");
    Undermost x = new Undermost();
    due.is("of none", states(x), "0 0 0 0 0");
    for (int i = 0; i < 6; i++) {
      x.buy(0, 10);
      x.mend(i);
      x.mend(i);
    }
    due.is("6 bought", states(x), "6 0 0 0 0");
    for (int i = 0; i < 5; i++) {
      x.take(0, 0);
    }
    due.is("5 taken", states(x), "1 5 0 0 0");
    due.is("two of them are missing", x.count(0, 0, 3), 2);
    due.is("2 LOST", states(x), "1 3 0 0 2");
    x.back(1, 0);
    x.back(2, 5);
    due.is("2 come back", states(x), "1 1 2 0 2");
    due.is("WEAR of 1 of 2", x.wash(0), 1);
    due.is("one is CLEAN again", states(x), "2 1 1 0 2");
    due.is("WEAR of 2 of 2", x.wash(0), 0);
    due.is("the other one is a RAG", states(x), "2 1 0 1 2");
    x.found(4);
    due.is("one is FOUND", states(x), "2 1 1 1 1");
    due.is("all of them", x.store(0), 6);
  }

  private static void ragStaysSo() {
    due.about(STAYS_SO);
    Undermost x = Houses.inEachState();
    String rag = Houses.piece(x, 3);
    due.is("the RAG", rag, "0 3 2 12 10 1 3 0 -1 -1 -1");
    due.refuses(x, "back(3, 0)", Due.STATE, () -> x.back(3, 0));
    due.refuses(x, "found(3)", Due.STATE, () -> x.found(3));
    due.refuses(x, "mend(3)", Due.STATE, () -> x.mend(3));
    due.refuses(x, "washes(3, 0)", Due.STATE, () -> x.washes(3, 0));
    for (int i = 0; i < 4; i++) {
      x.wash(3);
    }
    x.rule(0, true);
    x.turn(0);
    while (!x.shelf(0).equals("-")) {
      due.is("it is not taken", x.take(0, 0) == 3, false);
    }
    for (int house = 0; house <= 2; house++) {
      x.count(house, 0, 0);
    }
    due.is("all others are LOST", x.store(5), 4);
    due.is("the RAG still", Houses.piece(x, 3), rag);
  }

  private static void lostStaysSo() {
    due.about(STAYS_SO);
    Undermost x = Houses.inEachState();
    String lost = Houses.piece(x, 4);
    due.is("the LOST one", lost, "0 4 1 0 60 0 0 0 -1 -1 -1");
    due.refuses(x, "back(4, 0)", Due.STATE, () -> x.back(4, 0));
    due.refuses(x, "mend(4)", Due.STATE, () -> x.mend(4));
    due.refuses(x, "washes(4, 0)", Due.STATE, () -> x.washes(4, 0));
    due.refuses(x, "count(0, 0, 1)", Due.ARGUMENT, () -> x.count(0, 0, 1));
    due.is("count(0, 0, 0)", x.count(0, 0, 0), 0);
    for (int i = 0; i < 4; i++) {
      x.wash(3);
    }
    x.turn(0);
    while (!x.shelf(0).equals("-")) {
      due.is("it is not taken", x.take(0, 0) == 4, false);
    }
    due.is("the LOST one still", Houses.piece(x, 4), lost);
  }

  private static void lostCanBeFound() {
    due.about(STAYS_SO);
    Undermost x = Houses.inEachState();
    due.is("found(4)", x.found(4), 2);
    due.refuses(x, "found(4) again", Due.STATE, () -> x.found(4));
    due.is("it is washed", x.wash(3), 1);
    due.is("it is washed again", x.wash(3), 1);
    due.is("it is taken", x.take(0, 0), 4);
    due.is("it is LOST again", x.count(0, 0, 0), 1);
    due.is("found(4) then", x.found(4), 1);
    due.is("USES", x.ofPiece(4, 2), 2);
  }

  private static void pileOfAllCleanOnes() {
    due.about("Each KIND has a SHELF: a pile of all its CLEAN PIECES");
    Undermost x = new Undermost();
    due.is("of none: shelf", x.shelf(2), "-");
    due.is("of none: PIECES on it", x.ofKind(2, 0), 0);
    due.is("of none: uppermost", x.ofKind(2, 1), -1);
    due.is("of none: undermost", x.ofKind(2, 2), -1);
    x.buy(2, 10);
    due.is("of one: shelf", x.shelf(2), "0");
    due.is("of one: PIECES on it", x.ofKind(2, 0), 1);
    due.is("of one: uppermost", x.ofKind(2, 1), 0);
    due.is("of one: undermost", x.ofKind(2, 2), 0);
    due.is("other shelves", x.shelf(0) + x.shelf(1), "--");
    for (int i = 1; i < 16; i++) {
      x.buy(2, 10);
    }
    due.is("of 16: shelf", x.shelf(2), "15 14 13 12 11 10 9 8 7 6 5 4 3 2 1 0");
    due.is("of 16: PIECES on it", x.ofKind(2, 0), 16);
    due.is("of 16: uppermost", x.ofKind(2, 1), 15);
    due.is("of 16: undermost", x.ofKind(2, 2), 0);
    due.is("of 16: place of the uppermost", x.ofPiece(15, 9), 0);
    due.is("of 16: place of the undermost", x.ofPiece(0, 9), 15);
  }

  private static void topAtFirst() {
    due.about("and a RULE: TOP (at first) or UNDER");
    Undermost x = Houses.withClean(1, 2, 10);
    for (int kind = 0; kind <= 2; kind++) {
      due.is("ofKind(" + kind + ", 3)", x.ofKind(kind, 3), 0);
    }
    due.is("shelf by it", x.shelf(1), "1 0");
    for (int kind = 0; kind <= 2; kind++) {
      due.is("rule(" + kind + ", true)", x.rule(kind, true), false);
    }
  }

  private static void ruleToldTwice() {
    due.about("Returns whether it was UNDER.");
    Undermost x = new Undermost();
    due.is("TOP to TOP", x.rule(1, false), false);
    due.is("TOP to UNDER", x.rule(1, true), false);
    due.is("UNDER to UNDER", x.rule(1, true), true);
    due.is("it is UNDER", x.ofKind(1, 3), 1);
    due.is("UNDER to TOP", x.rule(1, false), true);
    due.is("it is TOP", x.ofKind(1, 3), 0);
    due.is("TOP to TOP again", x.rule(1, false), false);
    for (int kind : Due.outside(0, 2)) {
      due.refuses(x, "rule(" + kind + ", true)", Due.INDEX, () -> x.rule(kind, true));
    }
  }

  private static void putOnEmptyShelf() {
    due.about(PUT);
    for (int i = 0; i < 2; i++) {
      Undermost x = new Undermost();
      x.rule(0, i == 1);
      x.buy(0, 30);
      due.is("as it is bought", x.shelf(0), "0");
      Houses.use(x, 0, 0, 1);
      due.is("as it is washed", x.shelf(0), "0");
    }
  }

  private static void putByEachRule() {
    due.about(PUT);
    Undermost x = Houses.withClean(0, 3, 30);
    due.is("bought by TOP", x.shelf(0), "2 1 0");
    x.rule(0, true);
    x.buy(0, 30);
    due.is("bought by UNDER", x.shelf(0), "2 1 0 3");
    x.buy(0, 30);
    due.is("bought by UNDER again", x.shelf(0), "2 1 0 3 4");
    Houses.use(x, 0, 0, 1);
    due.is("washed by UNDER", x.shelf(0), "1 0 3 4 2");
    x.rule(0, false);
    Houses.use(x, 0, 0, 1);
    due.is("washed by TOP", x.shelf(0), "1 0 3 4 2");
    x.buy(0, 30);
    due.is("bought by TOP again", x.shelf(0), "5 1 0 3 4 2");
  }

  private static void ruleMovesNoPiece() {
    due.about("A PIECE that becomes CLEAN .. is put: a RULE that is told moves none");
    Undermost x = Houses.withClean(0, 3, 30);
    x.rule(0, true);
    due.is("UNDER", x.shelf(0), "2 1 0");
    x.rule(0, false);
    due.is("TOP", x.shelf(0), "2 1 0");
  }

  private static void ruleOfWhenItBecomesClean() {
    due.about("A PIECE that becomes CLEAN: by the RULE of then, not by that of its taking");
    Undermost x = Houses.withClean(0, 3, 30);
    x.take(0, 0);
    x.back(2, 0);
    x.rule(0, true);
    x.wash(0);
    due.is("taken by TOP, clean by UNDER", x.shelf(0), "1 0 2");
    x.take(0, 0);
    x.back(1, 0);
    x.rule(0, false);
    x.wash(0);
    due.is("taken by UNDER, clean by TOP", x.shelf(0), "1 0 2");
  }

  private static void ruleOfItsKindAlone() {
    due.about("Each KIND has a SHELF .. and a RULE");
    Undermost x = new Undermost();
    x.rule(1, true);
    for (int i = 0; i < 6; i++) {
      x.buy(i % 3, 30);
    }
    due.is("kind 0 by TOP", x.shelf(0), "3 0");
    due.is("kind 1 by UNDER", x.shelf(1), "1 4");
    due.is("kind 2 by TOP", x.shelf(2), "5 2");
    due.is("RULES", 100 * x.ofKind(0, 3) + 10 * x.ofKind(1, 3) + x.ofKind(2, 3), 10);
  }

  private static void turnedUpsideDown() {
    due.about("To TURN a SHELF: the pile is turned upside down.");
    String[] turned = {"-", "0", "0 1", "0 1 2", "0 1 2 3", "0 1 2 3 4"};
    for (int many = 0; many < turned.length; many++) {
      Undermost x = Houses.withClean(1, many, 30);
      due.is("turn(1) of " + many, x.turn(1), many == 0 ? -1 : 0);
      due.is("shelf(1) of " + many, x.shelf(1), turned[many]);
      due.is("undermost of " + many, x.ofKind(1, 2), many - 1);
    }
    Undermost x = Houses.withClean(1, 16, 30);
    due.is("turn(1) of 16", x.turn(1), 0);
    due.is("shelf(1) of 16", x.shelf(1), "0 1 2 3 4 5 6 7 8 9 10 11 12 13 14 15");
    due.is("turn(0), of none", x.turn(0), -1);
    due.is("that turns no other", x.ofKind(1, 1), 0);
    for (int kind : Due.outside(0, 2)) {
      due.refuses(x, "turn(" + kind + ")", Due.INDEX, () -> x.turn(kind));
    }
  }

  private static void turnedTwice() {
    due.about("To TURN a SHELF: the pile is turned upside down.");
    for (int many = 0; many <= 16; many++) {
      Undermost x = Houses.withClean(0, many, 30);
      String before = Everything.of(x);
      x.turn(0);
      due.is("turn(0) of " + many + " again", x.turn(0), many - 1);
      due.is("all is as it was", Everything.of(x), before);
    }
  }

  private static void turnIsNoRule() {
    due.about("the pile is turned upside down: who comes then is put by the RULE still");
    Undermost x = Houses.withClean(0, 2, 30);
    x.turn(0);
    x.buy(0, 30);
    due.is("TOP", x.shelf(0), "2 0 1");
    due.is("RULE", x.ofKind(0, 3), 0);
    x.rule(0, true);
    due.is("turn(0)", x.turn(0), 1);
    x.buy(0, 30);
    due.is("UNDER", x.shelf(0), "1 0 2 3");
    due.is("RULE", x.ofKind(0, 3), 1);
  }
}
