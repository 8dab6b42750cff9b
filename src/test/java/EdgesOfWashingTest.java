/** Part 3 of the document at its edges, sentence by sentence: washing and mending, and washes(). */
public final class EdgesOfWashingTest {
  private static final String FIRST_FOUR =
      "the first 4 of the HAMPER (or all, if there are fewer) are taken out; then one by one, in "
      + "their order";
  private static final String RAG_IF = "if WEAR is LIFE or more, it is a RAG";
  private static final String OTHERWISE =
      "otherwise, if there is STAIN left, it comes to the end of the HAMPER again; otherwise it is "
      + "CLEAN";
  private static final String MEND_IF =
      "It can be MENDED, if its WEAR would be less than its LIFE by that.";
  private static final String STAYS = "To MEND a PIECE that is CLEAN or FOUL (it stays where it is)";

  private static final Due due = new Due();

  public static void main(String[] args) {
    fourProgrammes();
    washOfNone();
    firstFourOrAll();
    stainedOnesStayInTheirOrder();
    noneIsWashedTwice();
    wearByProgramme();
    stainLess();
    ragByWear();
    ragByTheLongestLife();
    ragThoughStainIsLeft();
    ragByMendedLife();
    cleanByItsRule();
    cleanOnesAreCounted();
    wearEightLess();
    mendableByLife();
    mendableWithWear();
    mendedInItsPlace();
    mendedOnlyIfCleanOrFoul();
    mendsOfAll();
    washesToClean();
    washesToRag();
    washesOnlyIfFoul();
    due.end();
  }

  /** A clean piece of kind 0 with this wear, if that is below its life. */
  private static Undermost worn(int life, int wear) {
    Undermost x = Houses.withClean(0, 1, life);
    Houses.use(x, 0, 0, wear);
    return x;
  }

  private static void fourProgrammes() {
    due.about("PROGRAMMES 0 to 3");
    for (int programme = 0; programme <= 3; programme++) {
      Undermost x = Houses.withFoul(1, 30, 5);
      due.is("wash(" + programme + ")", x.wash(programme), 0);
      due.is("it was called", x.store(6), 1);
      due.is("WEAR", x.ofPiece(0, 3), programme + 1);
    }
    Undermost x = Houses.withFoul(5, 30, 5);
    Undermost y = new Undermost();
    for (int programme : Due.outside(0, 3)) {
      due.refuses(x, "wash(" + programme + ")", Due.INDEX, () -> x.wash(programme));
      due.refuses(y, "wash(" + programme + ") of none", Due.INDEX, () -> y.wash(programme));
    }
    due.is("a refused one was not called", x.store(6) + y.store(6), 0);
  }

  private static void washOfNone() {
    due.about(FIRST_FOUR);
    Undermost x = Houses.withClean(0, 2, 30);
    x.take(0, 0);
    String clean = Houses.piece(x, 0);
    String used = Houses.piece(x, 1);
    for (int programme = 0; programme <= 3; programme++) {
      due.is("wash(" + programme + ") of an empty HAMPER", x.wash(programme), 0);
      due.is("how often that was called", x.store(6), programme + 1);
    }
    due.is("the CLEAN one", Houses.piece(x, 0), clean);
    due.is("the USED one", Houses.piece(x, 1), used);
  }

  private static void firstFourOrAll() {
    due.about(FIRST_FOUR);
    for (int many = 1; many <= 16; many++) {
      Undermost x = Houses.withFoul(many, 30, 0);
      for (int left = many; left > 0; left -= 4) {
        due.is("wash(0) of " + left, x.wash(0), Math.min(4, left));
        due.is("FOUL then", x.store(3), Math.max(0, left - 4));
        for (int piece = 0; piece < many; piece++) {
          boolean isWashed = piece < many - left + 4;
          due.is("WASHES of " + piece + " of " + many, x.ofPiece(piece, 6), isWashed ? 1 : 0);
          due.is("state of " + piece + " of " + many, x.ofPiece(piece, 1), isWashed ? 0 : 2);
        }
      }
      due.is("wash(0) of none", x.wash(0), 0);
    }
  }

  private static void stainedOnesStayInTheirOrder() {
    due.about(FIRST_FOUR);
    String[] washed = {"", "0", "0 1", "0 1 2", "0 1 2 3", "4 0 1 2 3", "4 5 0 1 2 3",
        "4 5 6 0 1 2 3", "4 5 6 7 0 1 2 3", "4 5 6 7 8 0 1 2 3"};
    for (int many = 0; many < washed.length; many++) {
      Undermost x = Houses.withFoul(many, 30, 2);
      due.is("wash(0) of " + many, x.wash(0), 0);
      due.is("HAMPER of " + many, Houses.hamper(x), washed[many]);
    }
    Undermost x = Houses.withClean(0, 6, 30);
    for (int i = 0; i < 6; i++) {
      x.take(0, 0);
    }
    for (int i = 0; i < 6; i++) {
      x.back(i, i % 2 == 0 ? 2 : 1);
    }
    due.is("each other one is CLEAN", x.wash(0), 2);
    due.is("HAMPER", Houses.hamper(x), "4 5 0 2");
    due.is("SHELF", x.shelf(0), "3 1");
    due.is("of the next four", x.wash(0), 3);
    due.is("HAMPER", Houses.hamper(x), "4");
    due.is("SHELF", x.shelf(0), "2 0 5 3 1");
  }

  private static void noneIsWashedTwice() {
    due.about("taken out; then one by one: who comes to the end again is not of this WASH");
    for (int many = 1; many <= 4; many++) {
      Undermost x = Houses.withFoul(many, 30, 5);
      for (int times = 1; times <= 4; times++) {
        due.is("wash(0)", x.wash(0), 0);
        for (int piece = 0; piece < many; piece++) {
          due.is("one of " + many, Houses.piece(x, piece),
              "0 2 1 " + times + " 30 " + (5 - times) + " " + times + " 0 -1 -1 " + piece);
        }
      }
      due.is("the fifth wash(0)", x.wash(0), many);
    }
  }

  private static void wearByProgramme() {
    due.about("WASHES 1 more, WEAR 1 + p more");
    for (int programme = 0; programme <= 3; programme++) {
      Undermost x = Houses.withClean(0, 1, 60);
      for (int times = 1; times <= 5; times++) {
        Houses.use(x, 0, programme, 1);
        due.is("WASHES by " + programme, x.ofPiece(0, 6), times);
        due.is("WEAR by " + programme, x.ofPiece(0, 3), times * (1 + programme));
      }
    }
  }

  private static void stainLess() {
    due.about("STAIN p + 1 less (0 at least)");
    int[][] left = {{0, 0, 1, 2, 3, 4}, {0, 0, 0, 1, 2, 3}, {0, 0, 0, 0, 1, 2}, {0, 0, 0, 0, 0, 1}};
    for (int programme = 0; programme <= 3; programme++) {
      for (int stain = 0; stain <= 5; stain++) {
        due.about("STAIN p + 1 less (0 at least)");
        Undermost x = Houses.withFoul(1, 30, stain);
        boolean isClean = left[programme][stain] == 0;
        String call = "wash(" + programme + ") of a STAIN of " + stain;
        due.is(call, x.wash(programme), isClean ? 1 : 0);
        due.is("STAIN behind " + call, x.ofPiece(0, 5), left[programme][stain]);
        due.about(OTHERWISE);
        due.is("state behind " + call, x.ofPiece(0, 1), isClean ? 0 : 2);
        due.is("place on the SHELF behind " + call, x.ofPiece(0, 9), isClean ? 0 : -1);
        due.is("place in the HAMPER behind " + call, x.ofPiece(0, 10), isClean ? -1 : 0);
      }
    }
  }

  private static void ragByWear() {
    due.about(RAG_IF);
    for (int life = 10; life <= 13; life++) {
      for (int programme = 0; programme <= 3; programme++) {
        for (int over = -1; over <= programme; over++) {
          Undermost x = worn(life, life + over - 1 - programme);
          x.take(0, 0);
          x.back(0, 0);
          boolean isRag = over >= 0;
          String call = "wash(" + programme + ") to a WEAR of " + (life + over) + " of " + life;
          due.is(call, x.wash(programme), isRag ? 0 : 1);
          due.is("WEAR by " + call, x.ofPiece(0, 3), life + over);
          due.is("state by " + call, x.ofPiece(0, 1), isRag ? 3 : 0);
          due.is("SHELF by " + call, x.shelf(0), isRag ? "-" : "0");
          due.is("FOUL ones by " + call, x.store(3), 0);
          due.is("RAGS by " + call, x.store(4), isRag ? 1 : 0);
          due.is("isSound() by " + call, x.isSound(), true);
        }
      }
    }
  }

  private static void ragByTheLongestLife() {
    due.about(RAG_IF);
    Undermost x = worn(60, 58);
    due.is("WEAR of 58", Houses.piece(x, 0), "0 0 58 58 60 0 58 0 -1 0 -1");
    Houses.use(x, 0, 0, 1);
    due.is("WEAR of 59", Houses.piece(x, 0), "0 0 59 59 60 0 59 0 -1 0 -1");
    Houses.use(x, 0, 0, 1);
    due.is("WEAR of 60", Houses.piece(x, 0), "0 3 60 60 60 0 60 0 -1 -1 -1");
    due.refuses(x, "take(0, 0)", Due.STATE, () -> x.take(0, 0));
  }

  private static void ragThoughStainIsLeft() {
    due.about(RAG_IF + "; otherwise, if there is STAIN left ..");
    Undermost x = worn(10, 8);
    x.take(0, 0);
    x.back(0, 5);
    due.is("to a WEAR of 9", x.wash(0), 0);
    due.is("STAIN is left", Houses.piece(x, 0), "0 2 9 9 10 4 9 0 -1 -1 0");
    due.is("to a WEAR of 10", x.wash(0), 0);
    due.is("a RAG", Houses.piece(x, 0), "0 3 9 10 10 3 10 0 -1 -1 -1");
    due.is("HAMPER", x.store(3), 0);
    x.wash(0);
    due.is("the RAG is washed no more", Houses.piece(x, 0), "0 3 9 10 10 3 10 0 -1 -1 -1");
  }

  private static void ragByMendedLife() {
    due.about(RAG_IF + ": LIFE as it is by then");
    Undermost x = Houses.withFoul(1, 10, 5);
    x.mend(0);
    x.mend(0);
    due.is("LIFE", x.ofPiece(0, 4), 2);
    due.is("to a WEAR of 1", x.wash(0), 0);
    due.is("it is FOUL", x.ofPiece(0, 1), 2);
    due.is("to a WEAR of 2", x.wash(0), 0);
    due.is("it is a RAG", Houses.piece(x, 0), "0 3 1 2 2 3 2 2 -1 -1 -1");
  }

  private static void cleanByItsRule() {
    due.about("then one by one, in their order: .. CLEAN, put on the pile of its KIND");
    Undermost x = new Undermost();
    x.rule(1, true);
    for (int i = 0; i < 6; i++) {
      x.buy(i % 2, 30);
    }
    for (int i = 0; i < 4; i++) {
      x.take(0, i % 2);
    }
    due.is("SHELVES", x.shelf(0) + ", " + x.shelf(1), "0, 5");
    for (int piece : new int[] {1, 2, 3, 4}) {
      x.back(piece, 0);
    }
    due.is("wash(0) of two KINDS", x.wash(0), 4);
    due.is("by TOP the last one is uppermost", x.shelf(0), "4 2 0");
    due.is("by UNDER the last one is undermost", x.shelf(1), "5 1 3");
  }

  private static void cleanOnesAreCounted() {
    due.about("Returns how many became CLEAN.");
    Undermost x = new Undermost();
    x.buy(0, 10);
    x.mend(0);
    x.mend(0);
    for (int i = 0; i < 3; i++) {
      x.buy(0, 30);
    }
    for (int i = 0; i < 4; i++) {
      x.take(0, 0);
    }
    x.back(0, 0);
    x.back(1, 3);
    x.back(2, 2);
    x.back(3, 0);
    due.is("a RAG, a FOUL one, two CLEAN ones", x.wash(1), 2);
    due.is("states", "" + x.ofPiece(0, 1) + x.ofPiece(1, 1) + x.ofPiece(2, 1) + x.ofPiece(3, 1),
        "3200");
    due.is("the FOUL one is first", x.ofPiece(1, 10), 0);
  }

  private static void wearEightLess() {
    due.about("WEAR 8 less (0 at least), LIFE 4 less, MENDS 1 more");
    int[][] mended = {{0, 0}, {1, 0}, {7, 0}, {8, 0}, {9, 1}, {10, 2}, {16, 8}, {17, 9}, {39, 31}};
    for (int[] m : mended) {
      Undermost x = worn(40, m[0]);
      due.is("mend(0) of a WEAR of " + m[0], x.mend(0), m[1]);
      due.is("it", Houses.piece(x, 0),
          "0 0 " + m[0] + " " + m[1] + " 36 0 " + m[0] + " 1 -1 0 -1");
      due.is("isSound()", x.isSound(), true);
    }
  }

  private static void mendableByLife() {
    due.about(MEND_IF);
    for (int life = 10; life <= 60; life++) {
      Undermost x = Houses.withClean(0, 1, life);
      int mends = 0;
      for (int left = life - 4; left > 0; left -= 4) {
        due.is("mend(0) to a LIFE of " + left, x.mend(0), 0);
        mends++;
        due.is("LIFE", x.ofPiece(0, 4), left);
        due.is("MENDS", x.ofPiece(0, 7), mends);
      }
      due.is("a last LIFE of 1 to 4", x.ofPiece(0, 4), (life - 1) % 4 + 1);
      due.refuses(x, "mend(0) to a LIFE of 0 or less", Due.STATE, () -> x.mend(0));
    }
  }

  private static void mendableWithWear() {
    due.about(MEND_IF);
    for (int wear = 0; wear <= 3; wear++) {
      Undermost x = Houses.withClean(0, 1, 12);
      x.mend(0);
      x.mend(0);
      Houses.use(x, 0, 0, wear);
      due.refuses(x, "a WEAR of " + wear + " of 4, then 0 of 0", Due.STATE, () -> x.mend(0));
    }
    for (int wear = 0; wear <= 4; wear++) {
      Undermost x = Houses.withClean(0, 1, 13);
      x.mend(0);
      x.mend(0);
      Houses.use(x, 0, 0, wear);
      due.is("a WEAR of " + wear + " of 5, then 0 of 1", x.mend(0), 0);
      due.is("LIFE", x.ofPiece(0, 4), 1);
      due.refuses(x, "0 of 1, then 0 of -3", Due.STATE, () -> x.mend(0));
    }
    Undermost x = worn(10, 9);
    due.is("a WEAR of 9 of 10, then 1 of 6", x.mend(0), 1);
    Houses.use(x, 0, 0, 4);
    due.is("a WEAR of 5 of 6, then 0 of 2", x.mend(0), 0);
    Houses.use(x, 0, 0, 1);
    due.refuses(x, "a WEAR of 1 of 2, then 0 of -2", Due.STATE, () -> x.mend(0));
  }

  private static void mendedInItsPlace() {
    due.about(STAYS);
    Undermost x = Houses.withClean(0, 3, 30);
    x.mend(1);
    due.is("on the SHELF", x.shelf(0), "2 1 0");
    due.is("it is CLEAN", Houses.piece(x, 1), "0 0 0 0 26 0 0 1 -1 1 -1");
    x = Houses.withFoul(6, 30, 5);
    x.wash(0);
    due.is("HAMPER", Houses.hamper(x), "4 5 0 1 2 3");
    due.is("mend(0)", x.mend(0), 0);
    due.is("mend(4)", x.mend(4), 0);
    due.is("in the HAMPER", Houses.hamper(x), "4 5 0 1 2 3");
    due.is("it is FOUL, with its STAIN", Houses.piece(x, 0), "0 2 1 0 26 4 1 1 -1 -1 2");
    due.is("one that was not washed", Houses.piece(x, 4), "0 2 1 0 26 5 0 1 -1 -1 0");
    due.is("one that was not mended", Houses.piece(x, 1), "0 2 1 1 30 4 1 0 -1 -1 3");
  }

  private static void mendedOnlyIfCleanOrFoul() {
    due.about("Throws IllegalStateException if it is neither CLEAN nor FOUL, or can not be MENDED");
    Undermost x = Houses.inEachState();
    for (int piece : new int[] {1, 3, 4}) {
      due.refuses(x, "mend(" + piece + ")", Due.STATE, () -> x.mend(piece));
    }
    for (int piece : Due.outside(0, 4)) {
      due.refuses(x, "mend(" + piece + ")", Due.INDEX, () -> x.mend(piece));
    }
    due.is("mend(0), a CLEAN one", x.mend(0), 0);
    due.is("mend(2), a FOUL one", x.mend(2), 0);
    Undermost y = Houses.withFoul(1, 12, 5);
    y.mend(0);
    y.mend(0);
    due.refuses(y, "a FOUL one of a LIFE of 4", Due.STATE, () -> y.mend(0));
  }

  private static void mendsOfAll() {
    due.about("7 MENDS of all");
    Undermost x = Houses.withClean(0, 2, 12);
    due.is("none", x.store(7), 0);
    x.mend(0);
    x.mend(1);
    x.mend(1);
    due.is("three", x.store(7), 3);
    due.refuses(x, "a refused one", Due.STATE, () -> x.mend(1));
    x.take(0, 0);
    x.count(0, 0, 0);
    due.is("of a LOST one, too", x.store(7), 3);
    x.found(1);
    x.wash(3);
    due.is("of a RAG, too", 10 * x.store(4) + x.store(7), 13);
  }

  private static void washesToClean() {
    due.about("Returns in how many WASHES by that it would be CLEAN, if it was in each of them");
    int[][] want = {{1, 1, 2, 3, 4, 5}, {1, 1, 1, 2, 2, 3}, {1, 1, 1, 1, 2, 2}, {1, 1, 1, 1, 1, 2}};
    for (int programme = 0; programme <= 3; programme++) {
      for (int stain = 0; stain <= 5; stain++) {
        Undermost x = Houses.withFoul(6, 60, stain);
        String before = Everything.of(x);
        due.is("washes(5, " + programme + ") of a STAIN of " + stain, x.washes(5, programme),
            want[programme][stain]);
        due.is("nothing is changed", Everything.of(x), before);
      }
    }
  }

  private static void washesToRag() {
    due.about("NONE, if it would be a RAG by then");
    int[][] want = {{1, 1, 2, 3, 4, 5}, {1, 1, 1, 2, 2, 3}, {1, 1, 1, 1, 2, 2}, {1, 1, 1, 1, 1, 2}};
    for (int programme = 0; programme <= 3; programme++) {
      for (int stain = 0; stain <= 5; stain++) {
        int more = want[programme][stain] * (programme + 1);
        for (int life = Math.max(12, 14 - more); life <= 15; life++) {
          Undermost x = worn(life, 13 - more);
          x.take(0, 0);
          x.back(0, stain);
          due.is("washes(0, " + programme + ") of a STAIN of " + stain + ", WEAR of 13 then of "
              + life, x.washes(0, programme), life > 13 ? want[programme][stain] : -1);
        }
      }
    }
  }

  private static void washesOnlyIfFoul() {
    due.about("Throws IllegalStateException if it is not FOUL");
    Undermost x = Houses.inEachState();
    for (int programme = 0; programme <= 3; programme++) {
      int p = programme;
      for (int piece : new int[] {0, 1, 3, 4}) {
        due.refuses(x, "washes(" + piece + ", " + p + ")", Due.STATE, () -> x.washes(piece, p));
      }
      for (int piece : Due.outside(0, 4)) {
        due.refuses(x, "washes(" + piece + ", " + p + ")", Due.INDEX, () -> x.washes(piece, p));
      }
    }
    for (int programme : Due.outside(0, 3)) {
      for (int piece = 0; piece <= 4; piece++) {
        int p = piece;
        due.refuses(x, "washes(" + p + ", " + programme + ")", Due.INDEX,
            () -> x.washes(p, programme));
      }
    }
    due.is("washes(2, 0), a FOUL one", x.washes(2, 0), 3);
    due.is("washes(2, 3)", x.washes(2, 3), 1);
  }
}
