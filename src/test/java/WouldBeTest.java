/** Promises 20 to 25: spread, curve, washes, fits, isSound, digest. */
public final class WouldBeTest {
  private static final Due due = new Due();

  public static void main(String[] args) {
    spreadBehindRounds();
    spreadOfTheShelfAlone();
    spreadWrong();
    curveByRags();
    curveByRagsOfTheSameUses();
    curveWrong();
    washesUntilClean();
    washesUntilRag();
    washesAreAsWashDoes();
    washesWrong();
    fitsFirstDay();
    fitsAroundBookings();
    fitsWithTwelve();
    fitsWrong();
    soundInEachState();
    digestsAreDue();
    digestAsksJustThese();
    due.end();
  }

  /** A piece of a kind is taken, comes back without stain and is washed, so often. */
  private static void use(Undermost x, int kind, int programme, int times) {
    for (int i = 0; i < times; i++) {
      int piece = x.take(0, kind);
      x.back(piece, 0);
      x.wash(programme);
    }
  }

  /** Promise 20. */
  private static void spreadBehindRounds() {
    Undermost x = new Undermost();
    due.is("of an empty shelf", x.spread(1, true, 99), 0);
    due.is("of an empty shelf by TOP", x.spread(1, false, 99), 0);
    x.buy(1, 60);
    due.is("of one by UNDER", x.spread(1, true, 99), 0);
    due.is("of one by TOP", x.spread(1, false, 99), 0);
    x.buy(1, 60);
    x.buy(1, 60);
    int[] byUnder = {0, 1, 1, 0, 1, 1, 0};
    for (int rounds = 0; rounds <= 6; rounds++) {
      due.is("by UNDER, " + rounds, x.spread(1, true, rounds), byUnder[rounds]);
      due.is("by TOP, " + rounds, x.spread(1, false, rounds), rounds);
    }
    due.is("by UNDER, 99", x.spread(1, true, 99), 0);
    due.is("by TOP, 99", x.spread(1, false, 99), 99);
    use(x, 1, 0, 5);
    due.is("5, 0, 0 by UNDER, 0", x.spread(1, true, 0), 5);
    due.is("5, 0, 0 by UNDER, 1", x.spread(1, true, 1), 6);
    due.is("5, 0, 0 by UNDER, 2", x.spread(1, true, 2), 6);
    due.is("5, 0, 0 by UNDER, 3", x.spread(1, true, 3), 5);
    due.is("5, 0, 0 by TOP, 3", x.spread(1, false, 3), 8);
    x.turn(1);
    due.is("0, 0, 5 by UNDER, 2", x.spread(1, true, 2), 4);
    due.is("0, 0, 5 by TOP, 4", x.spread(1, false, 4), 5);
    due.is("0, 0, 5 by TOP, 7", x.spread(1, false, 7), 7);
    due.is("nothing is changed", x.shelf(1) + x.store(9), "0 1 25");
    x.rule(1, true);
    due.is("not by the shelf's own rule", x.spread(1, false, 9), 9);
  }

  private static void spreadOfTheShelfAlone() {
    Undermost x = new Undermost();
    x.buy(0, 60);
    use(x, 0, 0, 3);
    x.take(0, 0);
    x.buy(0, 60);
    x.buy(0, 60);
    due.is("SPREAD of all", x.ofKind(0, 4), 4);
    due.is("of the shelf alone", x.spread(0, true, 0), 0);
    due.is("of the shelf alone, 3", x.spread(0, true, 3), 1);
    x.take(0, 0);
    x.take(0, 0);
    due.is("all are used", x.spread(0, true, 3), 0);
  }

  private static void spreadWrong() {
    Undermost x = new Undermost();
    x.buy(0, 20);
    due.refuses(x, "spread(3, true, 0)", Due.INDEX, () -> x.spread(3, true, 0));
    due.refuses(x, "spread(-1, true, 0)", Due.INDEX, () -> x.spread(-1, true, 0));
    due.refuses(x, "spread(3, true, -1)", Due.INDEX, () -> x.spread(3, true, -1));
    due.refuses(x, "spread(0, true, -1)", Due.ARGUMENT, () -> x.spread(0, true, -1));
    due.refuses(x, "spread(0, false, 100)", Due.ARGUMENT, () -> x.spread(0, false, 100));
    due.refuses(x, "spread(1, true, 100)", Due.ARGUMENT, () -> x.spread(1, true, 100));
  }

  /** Promise 21. */
  private static void curveByRags() {
    Undermost x = new Undermost();
    due.is("curve(0) without pieces", x.curve(0), 1.0);
    due.is("curve(200) without pieces", x.curve(200), 1.0);
    x.buy(0, 12);
    use(x, 0, 3, 3);
    due.is("0 is a rag of 3 uses", x.ofPiece(0, 1), 3);
    due.is("curve(2) of a rag", x.curve(2), 1.0);
    due.is("curve(3) of a rag", x.curve(3), 0.0);
    x.buy(1, 60);
    use(x, 1, 0, 3);
    x.buy(1, 60);
    use(x, 1, 0, 2);
    x.buy(2, 10);
    use(x, 2, 1, 5);
    due.is("3 is a rag of 5 uses", x.ofPiece(3, 1), 3);
    x.buy(2, 60);
    use(x, 2, 0, 7);
    due.is("curve(2): none ended", x.curve(2), 1.0);
    due.is("curve(3): 1 of 4", x.curve(3), 1.0 - 1.0 / 4.0);
    due.is("curve(4): as before", x.curve(4), 1.0 - 1.0 / 4.0);
    due.is("curve(5): 1 of 2", x.curve(5), (1.0 - 1.0 / 4.0) * (1.0 - 1.0 / 2.0));
    due.is("curve(200)", x.curve(200), 0.375);
    x.take(0, 2);
    x.count(0, 2, 0);
    due.is("a lost one was seen", x.curve(200), 0.375);
    x.take(0, 1);
    due.is("a third use of 2 makes 5", x.curve(3), 1.0 - 1.0 / 5.0);
  }

  private static void curveByRagsOfTheSameUses() {
    Undermost x = new Undermost();
    for (int i = 0; i < 3; i++) {
      x.buy(0, 10);
    }
    for (int i = 0; i < 3; i++) {
      x.take(0, 0);
      x.take(1, 0);
      x.back(2, 0);
      x.back(1, 0);
      x.wash(3);
    }
    due.is("two are rags", x.store(4), 2);
    due.is("curve(3): 2 of 2", x.curve(3), 0.0);
    use(x, 0, 0, 3);
    due.is("curve(3): 2 of 3", x.curve(3), 1.0 - 2.0 / 3.0);
    due.is("curve(2)", x.curve(2), 1.0);
  }

  private static void curveWrong() {
    Undermost x = new Undermost();
    due.refuses(x, "curve(-1)", Due.ARGUMENT, () -> x.curve(-1));
    due.refuses(x, "curve(201)", Due.ARGUMENT, () -> x.curve(201));
    due.refuses(x, "curve(max)", Due.ARGUMENT, () -> x.curve(Integer.MAX_VALUE));
    due.is("curve(200) is none", Due.thrownBy(() -> x.curve(200)), "nothing but 1.0");
  }

  private static Undermost withOneFoul(int life, int stain) {
    Undermost x = new Undermost();
    x.buy(1, life);
    x.take(0, 1);
    x.back(0, stain);
    return x;
  }

  /** Promise 22. */
  private static void washesUntilClean() {
    int[][] want = {{1, 1, 2, 3, 4, 5}, {1, 1, 1, 2, 2, 3}, {1, 1, 1, 1, 2, 2}, {1, 1, 1, 1, 1, 2}};
    for (int programme = 0; programme <= 3; programme++) {
      for (int stain = 0; stain <= 5; stain++) {
        Undermost x = withOneFoul(60, stain);
        String before = Everything.of(x);
        due.is("washes(0, " + programme + ") of a stain of " + stain, x.washes(0, programme),
            want[programme][stain]);
        due.is("nothing is changed", Everything.of(x), before);
      }
    }
  }

  private static void washesUntilRag() {
    Undermost x = new Undermost();
    x.buy(0, 13);
    x.mend(0);
    x.mend(0);
    x.take(0, 0);
    x.back(0, 5);
    due.is("life of 5, wear of 5 by 0", x.washes(0, 0), -1);
    due.is("life of 5, wear of 6 by 1", x.washes(0, 1), -1);
    due.is("life of 5, wear of 8 by 3", x.washes(0, 3), -1);
    x.wash(0);
    due.is("life of 5, wear of 5 by 0, of a stain of 4", x.washes(0, 0), -1);
    due.is("life of 5, wear of 5 by 3, of a stain of 4", x.washes(0, 3), -1);
    Undermost y = withOneFoul(10, 5);
    due.is("life of 10, wear of 8 by 3", y.washes(0, 3), 2);
    y.wash(0);
    y.mend(0);
    due.is("life of 6, wear of 4 by 0", y.washes(0, 0), 4);
    y.wash(1);
    due.is("life of 6, wear of 4 by 1", y.washes(0, 1), 1);
    due.is("life of 6, wear of 6 by 3", y.washes(0, 3), -1);
    due.is("life of 6, wear of 5 by 2", y.washes(0, 2), 1);
  }

  /** What is foretold is what comes, for each stain, programme and wear of a life of 10. */
  private static void washesAreAsWashDoes() {
    for (int worn = 0; worn < 10; worn++) {
      for (int stain = 0; stain <= 5; stain++) {
        for (int programme = 0; programme <= 3; programme++) {
          Undermost x = new Undermost();
          x.buy(0, 10);
          use(x, 0, 0, worn);
          x.take(0, 0);
          x.back(0, stain);
          int told = x.washes(0, programme);
          int washed = 0;
          while (x.ofPiece(0, 1) == 2) {
            x.wash(programme);
            washed++;
          }
          due.is("wear of " + worn + ", stain of " + stain + ", by " + programme, told,
              x.ofPiece(0, 1) == 3 ? -1 : washed);
        }
      }
    }
  }

  private static void washesWrong() {
    Undermost x = withOneFoul(60, 3);
    x.buy(0, 60);
    due.refuses(x, "washes(2, 0)", Due.INDEX, () -> x.washes(2, 0));
    due.refuses(x, "washes(-1, 0)", Due.INDEX, () -> x.washes(-1, 0));
    due.refuses(x, "washes(0, 4)", Due.INDEX, () -> x.washes(0, 4));
    due.refuses(x, "washes(0, -1)", Due.INDEX, () -> x.washes(0, -1));
    due.refuses(x, "washes(0, max)", Due.INDEX, () -> x.washes(0, Integer.MAX_VALUE));
    due.refuses(x, "washes(1, 4) of a clean one", Due.INDEX, () -> x.washes(1, 4));
    due.refuses(x, "washes(1, 0) of a clean one", Due.STATE, () -> x.washes(1, 0));
    x.take(0, 0);
    due.refuses(x, "washes(1, 0) of a used one", Due.STATE, () -> x.washes(1, 0));
    x.count(0, 0, 0);
    due.refuses(x, "washes(1, 0) of a lost one", Due.STATE, () -> x.washes(1, 0));
  }

  /** Promise 23. */
  private static void fitsFirstDay() {
    Undermost x = new Undermost();
    due.is("without bookings", x.fits(0, 1, 1), 0);
    due.is("without bookings, 20 days for 12", x.fits(0, 20, 12), 0);
    x.book(0, 0, 20);
    due.is("behind the first", x.fits(0, 1, 1), 22);
    due.is("besides the first", x.fits(0, 1, 2), 0);
    due.is("of another kind", x.fits(1, 1, 1), 0);
    x.book(0, 26, 1);
    due.is("between two, 2 days", x.fits(0, 2, 1), 22);
    due.is("behind both, 3 days", x.fits(0, 3, 1), 29);
    x.drop(0);
    due.is("in front of the other", x.fits(0, 20, 1), 0);
    due.is("nothing is told", x.store(8), 2);
  }

  private static void fitsAroundBookings() {
    Undermost x = new Undermost();
    x.book(0, 0, 20);
    x.book(0, 22, 20);
    x.book(0, 44, 20);
    x.book(0, 66, 20);
    due.is("behind the last", x.fits(0, 1, 1), 88);
    x.book(0, 88, 10);
    due.is("on day 99 is no room", x.fits(0, 1, 1), -1);
    due.is("for two is room", x.fits(0, 1, 2), 0);
    x.drop(4);
    x.book(0, 88, 9);
    due.is("day 99 is busy", x.ofBooking(5, 5), 98);
    due.is("on day 99", x.fits(0, 20, 1), 99);
    x.book(0, 10, 1);
    due.is("NEED is more already", x.fits(0, 1, 1), -1);
    due.is("for two, in front", x.fits(0, 8, 2), 0);
    due.is("for two, behind", x.fits(0, 9, 2), 13);
    x.drop(6);
    x.book(0, 99, 1);
    due.is("up to day 99", x.fits(0, 1, 1), -1);
  }

  private static void fitsWithTwelve() {
    Undermost x = new Undermost();
    for (int i = 0; i < 12; i++) {
      x.book(2, 2, 1);
    }
    due.is("12 on a day, for 12", x.fits(2, 1, 12), 5);
    due.is("12 on a day, for 11", x.fits(2, 1, 11), -1);
    x.drop(0);
    due.is("11 on a day, for 12", x.fits(2, 1, 12), 0);
    due.is("11 on a day, for 11", x.fits(2, 1, 11), 5);
    due.is("another kind", x.fits(0, 20, 1), 0);
  }

  private static void fitsWrong() {
    Undermost x = new Undermost();
    x.book(0, 1, 1);
    due.refuses(x, "fits(3, 1, 1)", Due.INDEX, () -> x.fits(3, 1, 1));
    due.refuses(x, "fits(-1, 1, 1)", Due.INDEX, () -> x.fits(-1, 1, 1));
    due.refuses(x, "fits(3, 0, 0)", Due.INDEX, () -> x.fits(3, 0, 0));
    due.refuses(x, "fits(0, 0, 1)", Due.ARGUMENT, () -> x.fits(0, 0, 1));
    due.refuses(x, "fits(0, 21, 1)", Due.ARGUMENT, () -> x.fits(0, 21, 1));
    due.refuses(x, "fits(0, 1, 0)", Due.ARGUMENT, () -> x.fits(0, 1, 0));
    due.refuses(x, "fits(0, 1, 13)", Due.ARGUMENT, () -> x.fits(0, 1, 13));
    due.refuses(x, "fits(0, max, 1)", Due.ARGUMENT, () -> x.fits(0, Integer.MAX_VALUE, 1));
  }

  /** Promise 24. */
  private static void soundInEachState() {
    Undermost x = new Undermost();
    for (int i = 0; i < 4; i++) {
      x.buy(i % 2, 10);
      due.is("sound with clean ones", x.isSound(), true);
    }
    x.take(0, 0);
    x.take(0, 0);
    due.is("sound with used ones", x.isSound(), true);
    x.back(2, 5);
    due.is("sound with foul ones", x.isSound(), true);
    x.count(0, 0, 0);
    due.is("sound with lost ones", x.isSound(), true);
    x.found(0);
    due.is("sound with found ones", x.isSound(), true);
    x.wash(3);
    x.mend(2);
    due.is("sound with mended ones", x.isSound(), true);
    x.wash(3);
    x.take(1, 0);
    x.back(x.ofPiece(0, 1) == 1 ? 0 : 2, 0);
    x.wash(3);
    due.is("a rag", x.store(4), 1);
    due.is("sound with rags", x.isSound(), true);
    x.book(0, 5, 5);
    x.book(0, 1, 5);
    x.book(0, 3, 1);
    due.is("sound with bookings", x.isSound(), true);
    x.drop(1);
    due.is("sound with dropped ones", x.isSound(), true);
  }

  /** Promise 25, by its words; a foul, a used, a lost one, a rag and bookings are in it. */
  private static void digestsAreDue() {
    Undermost x = new Undermost();
    due.is("digest() of a new house", x.digest(), digestByItsWords(x));
    for (int i = 0; i < 16; i++) {
      x.buy(i % 3, 10 + i);
      due.is("digest() with pieces", x.digest(), digestByItsWords(x));
    }
    x.turn(0);
    use(x, 0, 3, 3);
    x.turn(0);
    use(x, 0, 3, 7);
    use(x, 1, 1, 2);
    use(x, 2, 0, 8);
    due.is("a curve that has to be cut", x.curve(3), 1.0 - 1.0 / 3.0);
    due.is("another", x.curve(9), (1.0 - 1.0 / 3.0) * (1.0 - 1.0 / 2.0));
    x.take(2, 1);
    x.take(2, 1);
    x.count(2, 1, 1);
    x.back(x.take(1, 2), 4);
    x.rule(2, true);
    x.knock();
    for (int i = 0; i < 12; i++) {
      x.book(i % 3, 7 * i, 1 + i);
      due.is("digest() with bookings", x.digest(), digestByItsWords(x));
    }
    x.drop(5);
    due.is("digest() of a busy house", x.digest(), digestByItsWords(x));
    due.is("digest() again", x.digest(), x.digest());
  }

  /** A house in which curve() and fits() answer otherwise a step beside what digest() asks. */
  private static void digestAsksJustThese() {
    Undermost x = new Undermost();
    int[] lives = {12, 16, 36, 40, 60};
    int[] uses = {3, 4, 9, 10, 12};
    for (int i = 0; i < lives.length; i++) {
      x.buy(0, lives[i]);
      use(x, 0, 3, uses[i]);
    }
    double[] curve = {1.0, 0.8, 0.6, 0.6, 0.4, 0.2};
    int[] at = {2, 3, 4, 8, 9, 10};
    for (int i = 0; i < at.length; i++) {
      due.is("about curve(" + at[i] + ")", (long) (1000.0 * x.curve(at[i]) + 0.5),
          (long) (1000.0 * curve[i] + 0.5));
    }
    for (int kind = 0; kind < 3; kind++) {
      for (int i = 0; i < 4; i++) {
        x.book(kind, i < 2 ? 0 : 10 + kind, 3);
      }
    }
    due.is("a gap of 5 days", x.fits(0, 5, 2), 15);
    due.is("a gap of 6 days", x.fits(1, 5, 2), 16);
    due.is("a gap of 7 days", x.fits(2, 5, 2), 5);
    due.is("a gap of 6 days is for 4", x.fits(1, 4, 2), 5);
    due.is("a gap of 7 days is not for 6", x.fits(2, 6, 2), 17);
    due.is("for 1", x.fits(2, 5, 1), -1);
    due.is("for 3", x.fits(2, 5, 3), 0);
    due.is("digest() just beside", x.digest(), digestByItsWords(x));
  }

  private static long digestByItsWords(Undermost x) {
    return Checksum.unwrapped(x).longValue();
  }
}
