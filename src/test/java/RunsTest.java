/** Runs of 512 calls, right and wrong ones: each answer is to be that of Plain, of all promises. */
public final class RunsTest {
  private static final int RUNS = 300;
  private static final int CALLS = 512;
  private static final int[] ODD = {-1, Integer.MIN_VALUE, Integer.MAX_VALUE, 16, 17, 61, 100, 201};

  private static final Due due = new Due();

  private final Undermost x = new Undermost();
  private final Plain plain = new Plain();
  /** How many arguments in 64 are odd ones. */
  private final int oddness;
  private long seed;

  private RunsTest(int run) {
    seed = run * 7919L + 17;
    oddness = run % 4;
  }

  public static void main(String[] args) {
    for (int run = 0; run < RUNS; run++) {
      RunsTest r = new RunsTest(run);
      for (int call = 0; call < CALLS; call++) {
        // Asking costs time in Plain, so some runs ask little.
        r.step("run " + run + ", call " + call + ": ", run % 3 == 0 ? 34 : 22);
      }
      due.is("run " + run + ": digest()", r.x.digest(), r.plain.digest());
      due.is("run " + run + ": isSound()", r.x.isSound(), r.plain.isSound());
    }
    due.end();
  }

  /** 0 to below - 1, by a small generator of its own, so that each run is the same ever. */
  private int any(int below) {
    seed = seed * 6364136223846793005L + 1442695040888963407L;
    return (int) ((seed >>> 33) % below);
  }

  private int any(int least, int most) {
    if (any(64) < oddness) {
      return ODD[any(ODD.length)];
    }
    return least + any(most - least + 1);
  }

  private int piece() {
    return any(0, Math.max(0, plain.store(0) - 1));
  }

  private int pieceThatIs(int state) {
    int piece = piece();
    for (int tries = 0; tries < 16 && oddness < 3; tries++) {
      if (piece >= 0 && piece < plain.store(0) && plain.ofPiece(piece, 1) == state) {
        return piece;
      }
      piece = piece();
    }
    return piece;
  }

  private void same(String call, Due.Call got, Due.Call want) {
    String isDue = told(want);
    due.is(call, told(got), isDue);
  }

  private static String told(Due.Call c) {
    return Due.thrownBy(c);
  }

  private void step(String where, int calls) {
    int call = any(calls);
    if (call < 22) {
      change(where, call);
    } else {
      ask(where, call - 22);
    }
  }

  private void change(String where, int call) {
    int kind = any(0, 2);
    int house = any(0, 2);
    switch (call) {
      case 0: case 1: {
        int life = any(4) == 0 ? any(9, 61) : any(10, 18);
        same(where + "buy(" + kind + ", " + life + ")", () -> x.buy(kind, life),
            () -> plain.buy(kind, life));
        break;
      }
      case 2: {
        boolean isUnder = any(2) == 0;
        same(where + "rule(" + kind + ", " + isUnder + ")", () -> x.rule(kind, isUnder),
            () -> plain.rule(kind, isUnder));
        break;
      }
      case 3:
        same(where + "turn(" + kind + ")", () -> x.turn(kind), () -> plain.turn(kind));
        break;
      case 4: case 5: case 6: case 7: case 8:
        same(where + "take(" + house + ", " + kind + ")", () -> x.take(house, kind),
            () -> plain.take(house, kind));
        break;
      case 9: case 10: case 11: case 12: {
        int piece = pieceThatIs(1);
        int stain = any(4) == 0 ? any(0, 6) : any(0, 2);
        same(where + "back(" + piece + ", " + stain + ")", () -> x.back(piece, stain),
            () -> plain.back(piece, stain));
        break;
      }
      case 13: {
        int counted = any(-1, 3);
        same(where + "count(" + house + ", " + kind + ", " + counted + ")",
            () -> x.count(house, kind, counted), () -> plain.count(house, kind, counted));
        break;
      }
      case 14: {
        int piece = pieceThatIs(4);
        same(where + "found(" + piece + ")", () -> x.found(piece), () -> plain.found(piece));
        break;
      }
      case 15: case 16: case 17: {
        int programme = any(3) == 0 ? any(0, 4) : 0;
        same(where + "wash(" + programme + ")", () -> x.wash(programme),
            () -> plain.wash(programme));
        break;
      }
      case 18: {
        int piece = pieceThatIs(any(2) * 2);
        same(where + "mend(" + piece + ")", () -> x.mend(piece), () -> plain.mend(piece));
        break;
      }
      case 19: {
        int from = any(2) == 0 ? any(-1, 100) : any(0, 30);
        int days = any(2) == 0 ? any(0, 21) : any(1, 5);
        same(where + "book(" + kind + ", " + from + ", " + days + ")",
            () -> x.book(kind, from, days), () -> plain.book(kind, from, days));
        break;
      }
      case 20: {
        int booking = any(0, 40);
        same(where + "drop(" + booking + ")", () -> x.drop(booking), () -> plain.drop(booking));
        break;
      }
      default:
        same(where + "knock()", () -> x.knock(), () -> plain.knock());
    }
  }

  private void ask(String where, int call) {
    int kind = any(0, 2);
    int house = any(0, 2);
    int piece = piece();
    switch (call) {
      case 0: {
        int what = any(-1, 11);
        same(where + "ofPiece(" + piece + ", " + what + ")", () -> x.ofPiece(piece, what),
            () -> plain.ofPiece(piece, what));
        break;
      }
      case 1: {
        int what = any(-1, 10);
        same(where + "ofKind(" + kind + ", " + what + ")", () -> x.ofKind(kind, what),
            () -> plain.ofKind(kind, what));
        break;
      }
      case 2:
        same(where + "at(" + house + ", " + kind + ")", () -> x.at(house, kind),
            () -> plain.at(house, kind));
        break;
      case 3: {
        int booking = any(0, 12);
        int what = any(-1, 6);
        same(where + "ofBooking(" + booking + ", " + what + ")", () -> x.ofBooking(booking, what),
            () -> plain.ofBooking(booking, what));
        break;
      }
      case 4: {
        int what = any(-1, 11);
        same(where + "store(" + what + ")", () -> x.store(what), () -> plain.store(what));
        break;
      }
      case 5:
        same(where + "shelf(" + kind + ")", () -> x.shelf(kind), () -> plain.shelf(kind));
        break;
      case 6: {
        boolean isUnder = any(2) == 0;
        int rounds = any(-1, 100);
        same(where + "spread(" + kind + ", " + isUnder + ", " + rounds + ")",
            () -> x.spread(kind, isUnder, rounds), () -> plain.spread(kind, isUnder, rounds));
        break;
      }
      case 7: {
        int uses = any(3) == 0 ? any(-1, 201) : any(0, 20);
        same(where + "curve(" + uses + ")", () -> x.curve(uses), () -> plain.curve(uses));
        break;
      }
      case 8: {
        int foul = pieceThatIs(2);
        int programme = any(-1, 4);
        same(where + "washes(" + foul + ", " + programme + ")", () -> x.washes(foul, programme),
            () -> plain.washes(foul, programme));
        break;
      }
      case 9: {
        int days = any(0, 21);
        int pieces = any(2) == 0 ? any(0, 13) : any(1, 3);
        same(where + "fits(" + kind + ", " + days + ", " + pieces + ")",
            () -> x.fits(kind, days, pieces), () -> plain.fits(kind, days, pieces));
        break;
      }
      case 10:
        same(where + "isSound()", () -> x.isSound(), () -> plain.isSound());
        break;
      default:
        same(where + "digest()", () -> x.digest(), () -> plain.digest());
    }
  }
}
