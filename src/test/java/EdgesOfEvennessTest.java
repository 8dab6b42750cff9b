/** Part 4 of the document at its edges, sentence by sentence: SPREAD, ROUNDS and the CURVE. */
public final class EdgesOfEvennessTest {
  private static final String SPREAD =
      "SPREAD of a KIND: the most USES of a PIECE of it that is no RAG and not LOST, less the "
      + "fewest (0 without any).";
  private static final String ROUND =
      "A ROUND on a SHELF: the uppermost PIECE is taken, has one USE more, and is put back by the "
      + "RULE.";
  private static final String ALONE =
      "SPREAD behind ROUNDS: that of the PIECES of that SHELF alone. (0, if its SHELF is empty)";
  private static final String EACH_T =
      "for each number t of 0 to u, in this order, at which d PIECES ended (1 or more)";
  private static final String N = "n is how many PIECES have t USES or more";

  private static final Due due = new Due();

  public static void main(String[] args) {
    spreadWithoutAny();
    spreadOfOne();
    spreadOfRagsAndLostOnes();
    spreadOfAllOthers();
    spreadOfItsKind();
    roundsFromNoneTo99();
    roundsOfOnePiece();
    roundsByUnder();
    roundsByTop();
    roundsFromUnevenUses();
    roundsLookAtUsesAlone();
    roundsAsTheyAreDone();
    roundsOfThatShelfAlone();
    roundsByTheRuleThatIsTold();
    curveWithoutAny();
    curveOfNoRags();
    curveAtTheUseOfARag();
    curveOfOneUse();
    curveOfSeveralAtOneUse();
    curveCountsThoseOfAsManyUses();
    curveOfLostOnes();
    curveDownToZero();
    curveInThisOrder();
    curveOfTheLongestLife();
    curveFromNoneTo200();
    due.end();
  }

  /** A rag of kind 0 that ended with so many uses (3 to 15). */
  private static void addRag(Undermost x, int kind, int uses) {
    int piece = x.buy(kind, 4 * uses < 10 ? 10 : 4 * uses);
    Houses.use(x, kind, 3, uses);
    due.is("a RAG of " + uses + " USES", 100 * x.ofPiece(piece, 1) + x.ofPiece(piece, 2),
        300 + uses);
  }

  /** A clean piece with so many uses, uppermost. */
  private static void addUsed(Undermost x, int kind, int uses) {
    x.buy(kind, 60);
    Houses.use(x, kind, 0, uses);
  }

  private static void spreadWithoutAny() {
    due.about(SPREAD);
    Undermost x = new Undermost();
    due.is("no PIECES", x.ofKind(0, 4), 0);
    addRag(x, 0, 3);
    due.is("a RAG alone", x.ofKind(0, 4), 0);
    addRag(x, 0, 5);
    due.is("two RAGS", x.ofKind(0, 4), 0);
    addUsed(x, 1, 4);
    x.take(0, 1);
    x.count(0, 1, 0);
    due.is("a LOST one alone", x.ofKind(1, 4), 0);
    x.buy(1, 60);
    x.take(0, 1);
    x.count(0, 1, 0);
    due.is("two LOST ones", x.ofKind(1, 4), 0);
  }

  private static void spreadOfOne() {
    due.about(SPREAD);
    Undermost x = new Undermost();
    x.buy(2, 60);
    due.is("one without USES", x.ofKind(2, 4), 0);
    Houses.use(x, 2, 0, 9);
    due.is("one of 9 USES", x.ofKind(2, 4), 0);
    x.buy(2, 60);
    due.is("one of 9 USES and one without", x.ofKind(2, 4), 9);
    Houses.use(x, 2, 0, 1);
    due.is("of 9 and of 1", x.ofKind(2, 4), 8);
  }

  private static void spreadOfRagsAndLostOnes() {
    due.about(SPREAD);
    Undermost x = new Undermost();
    addUsed(x, 0, 5);
    addUsed(x, 0, 7);
    due.is("of 5 and 7", x.ofKind(0, 4), 2);
    addRag(x, 0, 3);
    due.is("a RAG has the fewest", x.ofKind(0, 4), 2);
    addRag(x, 0, 12);
    due.is("a RAG has the most", x.ofKind(0, 4), 2);
    x.buy(0, 60);
    due.is("of 0, 5 and 7", x.ofKind(0, 4), 7);
    x.take(0, 0);
    due.is("of 1, 5 and 7", x.ofKind(0, 4), 6);
    x.count(0, 0, 0);
    due.is("a LOST one has the fewest", x.ofKind(0, 4), 2);
    x.take(0, 0);
    x.count(0, 0, 0);
    due.is("a LOST one has the most", x.ofKind(0, 4), 0);
    x.found(1);
    due.is("it is FOUND", x.ofKind(0, 4), 3);
  }

  private static void spreadOfAllOthers() {
    due.about(SPREAD);
    Undermost x = Houses.withClean(0, 2, 60);
    x.take(0, 0);
    due.is("a USED one of 1, a CLEAN one of 0", x.ofKind(0, 4), 1);
    x.back(1, 5);
    due.is("a FOUL one of 1, a CLEAN one of 0", x.ofKind(0, 4), 1);
    x.take(0, 0);
    due.is("a FOUL and a USED one of 1", x.ofKind(0, 4), 0);
  }

  private static void spreadOfItsKind() {
    due.about(SPREAD);
    Undermost x = new Undermost();
    addUsed(x, 0, 2);
    addUsed(x, 1, 6);
    addUsed(x, 1, 1);
    due.is("KIND 0", x.ofKind(0, 4), 0);
    due.is("KIND 1", x.ofKind(1, 4), 5);
    due.is("KIND 2", x.ofKind(2, 4), 0);
  }

  private static void roundsFromNoneTo99() {
    due.about("Throws IllegalArgumentException if rounds is not 0 to 99");
    Undermost x = Houses.withClean(0, 2, 60);
    for (int kind = 0; kind <= 1; kind++) {
      int k = kind;
      for (int rounds : Due.outside(0, 99)) {
        due.refuses(x, "spread(" + k + ", true, " + rounds + ")", Due.ARGUMENT,
            () -> x.spread(k, true, rounds));
        due.refuses(x, "spread(" + k + ", false, " + rounds + ")", Due.ARGUMENT,
            () -> x.spread(k, false, rounds));
      }
    }
    due.is("0 by TOP", x.spread(0, false, 0), 0);
    due.is("1 by TOP", x.spread(0, false, 1), 1);
    due.is("98 by TOP", x.spread(0, false, 98), 98);
    due.is("99 by TOP", x.spread(0, false, 99), 99);
    due.is("0 by UNDER", x.spread(0, true, 0), 0);
    due.is("1 by UNDER", x.spread(0, true, 1), 1);
    due.is("98 by UNDER", x.spread(0, true, 98), 0);
    due.is("99 by UNDER", x.spread(0, true, 99), 1);
  }

  private static void roundsOfOnePiece() {
    due.about(ROUND);
    Undermost x = Houses.withClean(1, 1, 60);
    for (int rounds : new int[] {0, 1, 2, 50, 99}) {
      due.is(rounds + " by UNDER", x.spread(1, true, rounds), 0);
      due.is(rounds + " by TOP", x.spread(1, false, rounds), 0);
    }
  }

  private static void roundsByUnder() {
    due.about(ROUND);
    for (int many = 2; many <= 16; many++) {
      Undermost x = Houses.withClean(0, many, 60);
      for (int rounds = 0; rounds <= 99; rounds++) {
        due.is(rounds + " by UNDER of " + many, x.spread(0, true, rounds),
            rounds % many == 0 ? 0 : 1);
      }
    }
  }

  private static void roundsByTop() {
    due.about(ROUND);
    for (int many = 2; many <= 16; many++) {
      Undermost x = Houses.withClean(0, many, 60);
      for (int rounds = 0; rounds <= 99; rounds++) {
        due.is(rounds + " by TOP of " + many, x.spread(0, false, rounds), rounds);
      }
    }
  }

  private static void roundsFromUnevenUses() {
    due.about(ROUND);
    Undermost x = new Undermost();
    addUsed(x, 0, 4);
    addUsed(x, 0, 0);
    addUsed(x, 0, 2);
    due.is("SHELF of 2, 0 and 4 USES", x.shelf(0), "2 1 0");
    int[] byTop = {4, 4, 4, 5, 6, 7, 8};
    int[] byUnder = {4, 4, 3, 4, 4, 3, 4};
    for (int rounds = 0; rounds < byTop.length; rounds++) {
      due.is(rounds + " by TOP", x.spread(0, false, rounds), byTop[rounds]);
      due.is(rounds + " by UNDER", x.spread(0, true, rounds), byUnder[rounds]);
    }
  }

  private static void roundsLookAtUsesAlone() {
    due.about("the most USES of a PIECE .., less the fewest: not WEAR, not WASHES");
    Undermost x = new Undermost();
    x.buy(0, 60);
    Houses.use(x, 0, 3, 2);
    x.take(0, 0);
    x.back(0, 5);
    for (int i = 0; i < 5; i++) {
      x.wash(0);
    }
    x.mend(0);
    due.is("3 USES, a WEAR of 5, 7 WASHES", Houses.piece(x, 0), "0 0 3 5 56 0 7 1 -1 0 -1");
    addUsed(x, 0, 1);
    due.is("SPREAD", x.ofKind(0, 4), 2);
    due.is("behind none", x.spread(0, true, 0), 2);
    due.is("behind 3 by TOP", x.spread(0, false, 3), 1);
    due.is("behind 3 by UNDER", x.spread(0, true, 3), 1);
  }

  /** What spread() tells is what comes, if the rounds are done. */
  private static void roundsAsTheyAreDone() {
    due.about(ROUND);
    for (int many = 1; many <= 5; many++) {
      for (int i = 0; i < 2; i++) {
        boolean isUnder = i == 1;
        Undermost x = Houses.withClean(0, many, 60);
        Houses.use(x, 0, 0, 3);
        x.turn(0);
        Houses.use(x, 0, 0, 1);
        x.rule(0, isUnder);
        int[] told = new int[20];
        for (int rounds = 0; rounds < told.length; rounds++) {
          told[rounds] = x.spread(0, isUnder, rounds);
        }
        for (int rounds = 0; rounds < told.length; rounds++) {
          due.is("SPREAD of " + many + " behind " + rounds + ", UNDER: " + isUnder, told[rounds],
              x.ofKind(0, 4));
          Houses.use(x, 0, 0, 1);
        }
      }
    }
  }

  private static void roundsOfThatShelfAlone() {
    due.about(ALONE);
    Undermost x = new Undermost();
    addUsed(x, 1, 5);
    addUsed(x, 0, 9);
    x.take(0, 0);
    due.is("none is left on it", x.spread(0, true, 0), 0);
    due.is("none is left on it, 99 by TOP", x.spread(0, false, 99), 0);
    x.buy(0, 60);
    x.buy(0, 60);
    due.is("with a USED one: SPREAD", x.ofKind(0, 4), 10);
    due.is("with a USED one: behind none", x.spread(0, true, 0), 0);
    due.is("with a USED one: behind 3 by TOP", x.spread(0, false, 3), 3);
    x.back(1, 5);
    due.is("with a FOUL one: behind none", x.spread(0, false, 0), 0);
    due.is("with a FOUL one: behind 3 by UNDER", x.spread(0, true, 3), 1);
    x.buy(1, 60);
    due.is("that of another KIND: behind none", x.spread(1, true, 0), 5);
    due.is("that of another KIND: behind one by UNDER", x.spread(1, true, 1), 4);
    due.is("that of no PIECES", x.spread(2, false, 99), 0);
  }

  private static void roundsByTheRuleThatIsTold() {
    due.about("isUnder: by UNDER, otherwise by TOP (nothing is changed)");
    for (int i = 0; i < 2; i++) {
      Undermost x = Houses.withClean(0, 3, 60);
      x.rule(0, i == 1);
      String before = Everything.of(x);
      due.is("by TOP", x.spread(0, false, 6), 6);
      due.is("by UNDER", x.spread(0, true, 6), 0);
      due.is("all is as it was", Everything.of(x), before);
    }
  }

  private static void curveWithoutAny() {
    due.about("1.0 at first");
    Undermost x = new Undermost();
    for (int uses : new int[] {0, 1, 199, 200}) {
      due.is("curve(" + uses + ")", x.curve(uses), 1.0);
    }
  }

  private static void curveOfNoRags() {
    due.about("those that are RAGS ended with their USES; all others were seen up to their USES");
    Undermost x = Houses.withClean(0, 4, 60);
    x.take(0, 0);
    x.take(0, 0);
    x.take(1, 0);
    x.back(1, 5);
    x.count(0, 0, 1);
    due.is("one CLEAN, USED, FOUL, LOST",
        "" + x.store(1) + x.store(2) + x.store(3) + x.store(5), "1111");
    for (int uses : new int[] {0, 1, 2, 200}) {
      due.is("curve(" + uses + ")", x.curve(uses), 1.0);
    }
  }

  private static void curveAtTheUseOfARag() {
    due.about(EACH_T);
    Undermost x = new Undermost();
    addRag(x, 0, 4);
    addUsed(x, 1, 6);
    due.is("curve(3), one use before", x.curve(3), 1.0);
    due.is("curve(4)", x.curve(4), 1.0 - 1.0 / 2.0);
    due.is("curve(5), one use behind", x.curve(5), 0.5);
    due.is("curve(6)", x.curve(6), 0.5);
    due.is("curve(200)", x.curve(200), 0.5);
  }

  private static void curveOfOneUse() {
    due.about(EACH_T);
    Undermost x = Houses.withClean(0, 1, 10);
    x.mend(0);
    x.mend(0);
    Houses.use(x, 0, 3, 1);
    due.is("a RAG of one USE", x.ofPiece(0, 1), 3);
    due.is("curve(0): n is 1, d is 0", x.curve(0), 1.0);
    due.is("curve(1): n is 1, d is 1", x.curve(1), 0.0);
    x.buy(0, 60);
    due.is("curve(1), one without USES", x.curve(1), 0.0);
    x.take(0, 0);
    due.is("curve(1), one of one USE", x.curve(1), 0.5);
    due.is("curve(0)", x.curve(0), 1.0);
  }

  private static void curveOfSeveralAtOneUse() {
    due.about(EACH_T);
    Undermost x = new Undermost();
    addUsed(x, 2, 10);
    double[] part = {1.0, 1.0 - 1.0 / 2.0, 1.0 - 2.0 / 3.0, 1.0 - 3.0 / 4.0, 1.0 - 4.0 / 5.0};
    for (int rags = 1; rags < part.length; rags++) {
      addRag(x, rags % 2, 5);
      due.is("curve(5): " + rags + " of " + (rags + 1), x.curve(5), part[rags]);
      due.is("curve(4)", x.curve(4), 1.0);
    }
  }

  private static void curveCountsThoseOfAsManyUses() {
    due.about(N);
    Undermost x = new Undermost();
    addRag(x, 0, 5);
    addUsed(x, 1, 4);
    due.is("one of 4 USES is not counted at 5", x.curve(5), 0.0);
    Houses.use(x, 1, 0, 1);
    due.is("one of 5 USES is counted at 5", x.curve(5), 0.5);
    Houses.use(x, 1, 0, 1);
    due.is("one of 6 USES is counted at 5", x.curve(5), 0.5);
    addRag(x, 0, 4);
    due.is("a RAG of 4 USES is not counted at 5", x.curve(5), (1.0 - 1.0 / 3.0) * 0.5);
    addRag(x, 0, 6);
    due.is("a RAG of 6 USES is counted at 5", x.curve(5), (1.0 - 1.0 / 4.0) * (1.0 - 1.0 / 3.0));
  }

  private static void curveOfLostOnes() {
    due.about("all others were seen up to their USES: LOST ones, too");
    Undermost x = new Undermost();
    addRag(x, 0, 3);
    addUsed(x, 1, 2);
    due.is("of 2 USES", x.curve(3), 0.0);
    x.take(0, 1);
    due.is("USED for the third time", x.curve(3), 0.5);
    x.count(0, 1, 0);
    due.is("LOST by that", x.curve(3), 0.5);
    due.is("LOST by that, behind it", x.curve(4), 0.5);
    x.found(1);
    due.is("FOUND", x.curve(3), 0.5);
  }

  private static void curveDownToZero() {
    due.about("multiplied by (1.0 - d / n as a double)");
    Undermost x = new Undermost();
    addRag(x, 0, 3);
    addRag(x, 0, 4);
    addUsed(x, 1, 2);
    due.is("curve(3): 1 of 2", x.curve(3), 0.5);
    due.is("curve(4): 1 of 1", x.curve(4), 0.0);
    due.is("curve(5): no PIECE has 5", x.curve(5), 0.0);
    due.is("curve(200)", x.curve(200), 0.0);
  }

  private static void curveInThisOrder() {
    due.about(EACH_T + ": multiplied");
    Undermost x = new Undermost();
    int[] uses = {3, 4, 5, 7, 8, 9, 10};
    for (int u : uses) {
      addRag(x, u % 3, u);
    }
    addUsed(x, 0, 11);
    addUsed(x, 1, 6);
    double part = 1.0;
    int[] n = {9, 8, 7, 5, 4, 3, 2};
    for (int i = 0; i < uses.length; i++) {
      due.is("one use before", x.curve(uses[i] - 1), part);
      part = part * (1.0 - 1.0 / n[i]);
      due.is("curve(" + uses[i] + "): 1 of " + n[i], x.curve(uses[i]), part);
    }
  }

  /** The most uses that a piece can have: mended as often as may be, by the weakest programme. */
  private static void curveOfTheLongestLife() {
    due.about("seen up to their USES: the most of them");
    Undermost x = Houses.withClean(0, 1, 60);
    int uses = 0;
    int mends = 0;
    int wear = 0;
    for (int life = 60; wear < life; wear++) {
      if (wear == Math.min(8, life - 1) && life > 4) {
        due.is("mend(0)", x.mend(0), 0);
        wear = 0;
        life -= 4;
        mends++;
      }
      Houses.use(x, 0, 0, 1);
      uses++;
    }
    due.is("all that in fewer than 512 calls", 1 + 3 * uses + mends < 500, true);
    due.is("it is a RAG", Houses.piece(x, 0), "0 3 115 4 4 0 115 14 -1 -1 -1");
    due.is("USES", uses, 115);
    due.is("curve(114), one use before", x.curve(114), 1.0);
    due.is("curve(115)", x.curve(115), 0.0);
    due.is("curve(200)", x.curve(200), 0.0);
  }

  private static void curveFromNoneTo200() {
    due.about("Throws IllegalArgumentException if uses is not 0 to 200");
    Undermost x = new Undermost();
    Undermost y = Houses.inEachState();
    for (int uses : Due.outside(0, 200)) {
      due.refuses(x, "curve(" + uses + ") of none", Due.ARGUMENT, () -> x.curve(uses));
      due.refuses(y, "curve(" + uses + ")", Due.ARGUMENT, () -> y.curve(uses));
    }
    due.is("curve(0)", y.curve(0), 1.0);
    due.is("curve(200)", y.curve(200), 0.0);
  }
}
