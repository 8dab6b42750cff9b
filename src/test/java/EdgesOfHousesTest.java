/** Part 2 of the document at its edges, sentence by sentence: houses. */
public final class EdgesOfHousesTest {
  private static final String TAKES =
      "A HOUSE TAKES a PIECE of a KIND: the uppermost one of that SHELF: it is USED, at that HOUSE, "
      + "and its USES are 1 more.";
  private static final String COMES_BACK =
      "A PIECE that is USED COMES BACK with a STAIN (0 to 5): it is FOUL, at the end of the HAMPER";
  private static final String COUNTS =
      "if there are fewer than it should have, the others are LOST: those whose last taking was the "
      + "earliest";
  private static final String FOUND =
      "A LOST PIECE that is FOUND is FOUL, with a STAIN of 5, at the end of the HAMPER.";

  private static final Due due = new Due();

  public static void main(String[] args) {
    threeHouses();
    takenUppermost();
    takenToTheLast();
    takenAgainElsewhere();
    sixteenAtOneHouse();
    backWithEachStain();
    backToTheEndOfTheHamper();
    backOnlyIfUsed();
    countedAsManyAsItShouldHave();
    countedFewer();
    countedNone();
    countedMore();
    lostByTheLastTaking();
    lostByTheTakingNotTheNumber();
    lostOfThatHouseAndKindAlone();
    lostTakingsOfOtherHouses();
    foundAtTheEndOfTheHamper();
    foundAsItWas();
    foundOnlyIfLost();
    placesByState();
    usesOfAll();
    due.end();
  }

  private static void threeHouses() {
    due.about("HOUSES 0 to 2");
    Undermost x = Houses.withClean(1, 4, 30);
    for (int house = 0; house <= 2; house++) {
      due.is("take(" + house + ", 1)", x.take(house, 1), 3 - house);
      due.is("its HOUSE", x.ofPiece(3 - house, 8), house);
      due.is("at(" + house + ", 1)", x.at(house, 1), 1);
    }
    for (int house : Due.outside(0, 2)) {
      due.refuses(x, "take(" + house + ", 1)", Due.INDEX, () -> x.take(house, 1));
      due.refuses(x, "count(" + house + ", 1, 0)", Due.INDEX, () -> x.count(house, 1, 0));
      due.refuses(x, "at(" + house + ", 1)", Due.INDEX, () -> x.at(house, 1));
    }
    for (int house = 0; house <= 2; house++) {
      due.is("count(" + house + ", 1, 0)", x.count(house, 1, 0), 1);
    }
  }

  private static void takenUppermost() {
    due.about(TAKES);
    Undermost x = Houses.withClean(0, 3, 30);
    x.turn(0);
    due.is("the uppermost one", x.take(2, 0), 0);
    due.is("it", Houses.piece(x, 0), "0 1 1 0 30 0 0 0 2 -1 -1");
    due.is("the SHELF then", x.shelf(0), "1 2");
    due.is("the next one", Houses.piece(x, 1), "0 0 0 0 30 0 0 0 -1 0 -1");
  }

  private static void takenToTheLast() {
    due.about("Throws IllegalStateException if there is none on that SHELF");
    Undermost x = Houses.withClean(0, 1, 30);
    x.buy(1, 30);
    due.refuses(x, "take(0, 2) of none", Due.STATE, () -> x.take(0, 2));
    due.is("take(0, 0) of one", x.take(0, 0), 0);
    due.refuses(x, "take(0, 0) where the last is USED", Due.STATE, () -> x.take(0, 0));
    x.back(0, 1);
    due.refuses(x, "take(0, 0) where the last is FOUL", Due.STATE, () -> x.take(0, 0));
    x.wash(0);
    due.is("take(0, 0) where it is CLEAN again", x.take(0, 0), 0);
    x.count(0, 0, 0);
    due.refuses(x, "take(0, 0) where the last is LOST", Due.STATE, () -> x.take(0, 0));
    due.is("USES by all that", x.store(9), 2);
    due.is("take(0, 1), of one", x.take(0, 1), 1);
  }

  private static void takenAgainElsewhere() {
    due.about(TAKES);
    Undermost x = Houses.withClean(0, 1, 30);
    for (int i = 0; i < 6; i++) {
      due.is("take", x.take(i % 3, 0), 0);
      due.is("USES", x.ofPiece(0, 2), i + 1);
      due.is("HOUSE", x.ofPiece(0, 8), i % 3);
      for (int house = 0; house <= 2; house++) {
        due.is("at(" + house + ", 0)", x.at(house, 0), house == i % 3 ? 1 : 0);
      }
      x.back(0, 0);
      due.is("HOUSE of a FOUL one", x.ofPiece(0, 8), -1);
      due.is("at no HOUSE", x.at(0, 0) + x.at(1, 0) + x.at(2, 0), 0);
      x.wash(0);
      due.is("HOUSE of a CLEAN one", x.ofPiece(0, 8), -1);
    }
  }

  private static void sixteenAtOneHouse() {
    due.about(TAKES);
    Undermost x = Houses.withClean(2, 16, 30);
    for (int i = 0; i < 16; i++) {
      due.is("at(1, 2)", x.at(1, 2), i);
      due.is("take(1, 2)", x.take(1, 2), 15 - i);
    }
    due.is("at(1, 2)", x.at(1, 2), 16);
    due.is("USED", x.store(2), 16);
    due.refuses(x, "one more", Due.STATE, () -> x.take(1, 2));
    due.refuses(x, "count(1, 2, 17)", Due.ARGUMENT, () -> x.count(1, 2, 17));
    due.is("count(1, 2, 16)", x.count(1, 2, 16), 0);
    due.is("count(1, 2, 0)", x.count(1, 2, 0), 16);
    due.is("LOST", x.store(5), 16);
  }

  private static void backWithEachStain() {
    due.about(COMES_BACK);
    Undermost x = Houses.withClean(0, 6, 30);
    for (int i = 0; i < 6; i++) {
      x.take(2, 0);
    }
    for (int stain = 0; stain <= 5; stain++) {
      int piece = stain;
      for (int wrong : new int[] {Integer.MIN_VALUE, -1, 6, Integer.MAX_VALUE}) {
        due.refuses(x, "back(" + piece + ", " + wrong + ")", Due.ARGUMENT,
            () -> x.back(piece, wrong));
      }
      due.is("back(" + piece + ", " + stain + ")", x.back(piece, stain), stain + 1);
      due.is("it", Houses.piece(x, piece), "0 2 1 0 30 " + stain + " 0 0 -1 -1 " + stain);
    }
  }

  private static void backToTheEndOfTheHamper() {
    due.about(COMES_BACK);
    Undermost x = Houses.withClean(0, 16, 30);
    for (int i = 0; i < 16; i++) {
      x.take(i % 3, 0);
    }
    due.is("an empty HAMPER", Houses.hamper(x), "");
    due.is("the first one", x.back(7, 0), 1);
    due.is("HAMPER", Houses.hamper(x), "7");
    due.is("the second one", x.back(3, 5), 2);
    due.is("HAMPER", Houses.hamper(x), "7 3");
    int[] others = {15, 0, 14, 1, 13, 2, 12, 11, 4, 10, 5, 9, 6, 8};
    for (int i = 0; i < others.length; i++) {
      due.is("one more", x.back(others[i], 1), i + 3);
      due.is("its place", x.ofPiece(others[i], 10), i + 2);
    }
    due.is("HAMPER of 16", Houses.hamper(x), "7 3 15 0 14 1 13 2 12 11 4 10 5 9 6 8");
  }

  private static void backOnlyIfUsed() {
    due.about("Throws IllegalStateException if it is not USED");
    Undermost x = Houses.inEachState();
    for (int piece : new int[] {0, 2, 3, 4}) {
      for (int stain = 0; stain <= 5; stain++) {
        int s = stain;
        due.refuses(x, "back(" + piece + ", " + s + ")", Due.STATE, () -> x.back(piece, s));
      }
    }
    due.is("back(1, 0), a USED one", x.back(1, 0), 2);
    due.refuses(x, "back(1, 0) again", Due.STATE, () -> x.back(1, 0));
  }

  private static void countedAsManyAsItShouldHave() {
    due.about(COUNTS);
    for (int many = 0; many <= 4; many++) {
      Undermost x = Houses.withClean(0, 4, 30);
      for (int i = 0; i < many; i++) {
        x.take(1, 0);
      }
      String before = Everything.of(x);
      due.is("count(1, 0, " + many + ") of as many", x.count(1, 0, many), 0);
      due.is("nothing is changed", Everything.of(x), before);
    }
  }

  private static void countedFewer() {
    due.about(COUNTS);
    for (int many = 1; many <= 5; many++) {
      for (int counted = 0; counted < many; counted++) {
        Undermost x = Houses.withClean(0, 5, 30);
        for (int i = 0; i < many; i++) {
          x.take(1, 0);
        }
        String call = "count(1, 0, " + counted + ") of " + many;
        due.is(call, x.count(1, 0, counted), many - counted);
        due.is("LOST by " + call, x.store(5), many - counted);
        due.is("at the HOUSE behind " + call, x.at(1, 0), counted);
        // Taken from the uppermost one on: 4 first, then 3, ..
        for (int i = 0; i < many; i++) {
          due.is("state of the one taken as number " + i, x.ofPiece(4 - i, 1),
              i < many - counted ? 4 : 1);
        }
      }
    }
  }

  private static void countedNone() {
    due.about(COUNTS);
    Undermost x = Houses.withClean(0, 2, 30);
    due.is("0 of 0", x.count(0, 0, 0), 0);
    x.take(0, 0);
    due.is("0 of 1", x.count(0, 0, 0), 1);
    due.is("it", Houses.piece(x, 1), "0 4 1 0 30 0 0 0 -1 -1 -1");
    due.is("0 of 0 again", x.count(0, 0, 0), 0);
    due.is("the other one", Houses.piece(x, 0), "0 0 0 0 30 0 0 0 -1 0 -1");
  }

  private static void countedMore() {
    due.about("Throws IllegalArgumentException if counted is below 0, or more than it should have");
    Undermost x = Houses.withClean(0, 3, 30);
    due.refuses(x, "1 of 0", Due.ARGUMENT, () -> x.count(0, 0, 1));
    for (int i = 0; i < 3; i++) {
      x.take(0, 0);
    }
    for (int counted : new int[] {Integer.MIN_VALUE, -1, 4, Integer.MAX_VALUE}) {
      due.refuses(x, counted + " of 3", Due.ARGUMENT, () -> x.count(0, 0, counted));
    }
    due.is("2 of 3", x.count(0, 0, 2), 1);
    due.refuses(x, "3 of 2", Due.ARGUMENT, () -> x.count(0, 0, 3));
    due.is("2 of 2", x.count(0, 0, 2), 0);
    x.back(0, 0);
    due.refuses(x, "2 of 1", Due.ARGUMENT, () -> x.count(0, 0, 2));
    due.refuses(x, "1 of 0, of another HOUSE", Due.ARGUMENT, () -> x.count(1, 0, 1));
    due.refuses(x, "1 of 0, of another KIND", Due.ARGUMENT, () -> x.count(0, 1, 1));
    due.is("1 of 1", x.count(0, 0, 1), 0);
  }

  private static void lostByTheLastTaking() {
    due.about("those whose last taking was the earliest");
    Undermost x = Houses.withClean(0, 3, 30);
    x.take(0, 0);
    x.take(0, 0);
    x.take(0, 0);
    x.back(2, 0);
    x.wash(0);
    x.take(0, 0);
    due.is("2 was taken first, but last, too", x.count(0, 0, 2), 1);
    due.is("1 is LOST", x.ofPiece(1, 1), 4);
    due.is("one more", x.count(0, 0, 1), 1);
    due.is("0 is LOST", x.ofPiece(0, 1), 4);
    due.is("2 is there", x.ofPiece(2, 1), 1);
  }

  private static void lostByTheTakingNotTheNumber() {
    due.about("those whose last taking was the earliest");
    Undermost x = Houses.withClean(0, 4, 30);
    x.take(2, 0);
    x.turn(0);
    x.take(2, 0);
    x.take(2, 0);
    x.take(2, 0);
    due.is("taken: 3, 0, 1, 2", x.count(2, 0, 3), 1);
    due.is("3 is LOST", x.ofPiece(3, 1), 4);
    due.is("then", x.count(2, 0, 1), 2);
    due.is("0 is LOST", x.ofPiece(0, 1), 4);
    due.is("1 is LOST", x.ofPiece(1, 1), 4);
    due.is("2 is there", x.ofPiece(2, 1), 1);
  }

  private static void lostOfThatHouseAndKindAlone() {
    due.about("A HOUSE COUNTS its PIECES of a KIND");
    Undermost x = new Undermost();
    for (int i = 0; i < 9; i++) {
      x.buy(i % 3, 30);
    }
    for (int house = 0; house <= 2; house++) {
      for (int kind = 0; kind <= 2; kind++) {
        x.take(house, kind);
      }
    }
    due.is("count(1, 1, 0)", x.count(1, 1, 0), 1);
    for (int piece = 0; piece < 9; piece++) {
      due.is("state of " + piece, x.ofPiece(piece, 1), piece == 4 ? 4 : 1);
    }
  }

  private static void lostTakingsOfOtherHouses() {
    due.about("those whose last taking was the earliest: be it at another HOUSE before");
    Undermost x = Houses.withClean(0, 2, 30);
    x.take(1, 0);
    x.back(1, 0);
    x.turn(0);
    x.take(0, 0);
    x.wash(0);
    x.take(0, 0);
    due.is("0, then 1 at house 0", x.count(0, 0, 1), 1);
    due.is("0 is LOST", x.ofPiece(0, 1), 4);
    due.is("1 is there", x.ofPiece(1, 1), 1);
  }

  private static void foundAtTheEndOfTheHamper() {
    due.about(FOUND);
    Undermost x = Houses.withClean(0, 4, 30);
    for (int i = 0; i < 4; i++) {
      x.take(0, 0);
    }
    x.count(0, 0, 1);
    due.is("into an empty HAMPER", x.found(2), 1);
    x.back(0, 0);
    due.is("behind two", x.found(1), 3);
    due.is("behind three", x.found(3), 4);
    due.is("HAMPER", Houses.hamper(x), "2 0 1 3");
    due.is("STAINS", "" + x.ofPiece(2, 5) + x.ofPiece(0, 5) + x.ofPiece(1, 5) + x.ofPiece(3, 5),
        "5055");
    due.is("LOST ones", x.store(5), 0);
  }

  private static void foundAsItWas() {
    due.about(FOUND);
    Undermost x = Houses.withClean(2, 1, 30);
    Houses.use(x, 2, 2, 3);
    x.mend(0);
    x.take(1, 2);
    x.count(1, 2, 0);
    due.is("LOST", Houses.piece(x, 0), "2 4 4 1 26 0 3 1 -1 -1 -1");
    due.is("found(0)", x.found(0), 1);
    due.is("FOUL", Houses.piece(x, 0), "2 2 4 1 26 5 3 1 -1 -1 0");
    due.is("at(1, 2)", x.at(1, 2), 0);
  }

  private static void foundOnlyIfLost() {
    due.about("Throws IllegalStateException if it is not LOST");
    Undermost x = Houses.inEachState();
    for (int piece = 0; piece <= 3; piece++) {
      int p = piece;
      due.refuses(x, "found(" + p + ")", Due.STATE, () -> x.found(p));
    }
    for (int piece : Due.outside(0, 4)) {
      due.refuses(x, "found(" + piece + ")", Due.INDEX, () -> x.found(piece));
    }
    due.is("found(4), a LOST one", x.found(4), 2);
    due.refuses(x, "found(4) again", Due.STATE, () -> x.found(4));
  }

  private static void placesByState() {
    Undermost x = Houses.inEachState();
    String[] state = {"CLEAN", "USED", "FOUL", "a RAG", "LOST"};
    for (int piece = 0; piece < state.length; piece++) {
      due.about("8 its HOUSE (NONE, if it is not USED)");
      due.is(state[piece], x.ofPiece(piece, 8), piece == 1 ? 2 : -1);
      due.about("9 its place on the SHELF, .. (NONE, if it is not CLEAN)");
      due.is(state[piece], x.ofPiece(piece, 9), piece == 0 ? 0 : -1);
      due.about("10 its place in the HAMPER, .. (NONE, if it is not FOUL)");
      due.is(state[piece], x.ofPiece(piece, 10), piece == 2 ? 0 : -1);
      due.about("1 its state (0 CLEAN, 1 USED, 2 FOUL, 3 a RAG, 4 LOST)");
      due.is(state[piece], x.ofPiece(piece, 1), piece);
    }
    due.about("Returns how many PIECES of it are at that HOUSE.");
    for (int house = 0; house <= 2; house++) {
      for (int kind = 0; kind <= 2; kind++) {
        due.is("at(" + house + ", " + kind + ")", x.at(house, kind), house == 2 && kind == 0 ? 1 : 0);
      }
    }
  }

  private static void usesOfAll() {
    due.about("9 USES of all");
    Undermost x = new Undermost();
    due.is("of none", x.store(9), 0);
    x.buy(0, 60);
    due.is("of one without USES", x.store(9), 0);
    due.is("of one in each state: 0, 1, 1, 2 and 1", Houses.inEachState().store(9), 5);
  }
}
