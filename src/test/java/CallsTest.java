import java.math.BigInteger;

/** All 512 calls of an object, calls that ask, and the checksum that wraps around. */
public final class CallsTest {
  private static final String CALLS =
      "An object is used for at most 512 calls after it has been made";

  private static final Due due = new Due();

  public static void main(String[] args) {
    knocksToTheLastCall();
    washesToTheLastCall();
    usesToTheLastCall();
    refusedCallsToTheLastCall();
    dearestCallsToTheLastCall();
    askingChangesNothing();
    digestWrapsAround();
    digestOfNone();
    digestOfTheFullest();
    digestCutsProducts();
    due.end();
  }

  private static void knocksToTheLastCall() {
    due.about(CALLS);
    Undermost x = new Undermost();
    for (int call = 1; call <= 512; call++) {
      due.is("knock()", x.knock(), call);
    }
  }

  private static void washesToTheLastCall() {
    due.about(CALLS);
    Undermost x = new Undermost();
    for (int call = 1; call <= 511; call++) {
      due.is("wash(3)", x.wash(3), 0);
    }
    due.is("store(6)", x.store(6), 511);
  }

  private static void usesToTheLastCall() {
    due.about(CALLS);
    Undermost x = Houses.withClean(0, 16, 60);
    int calls = 16;
    for (int uses = 0; calls + 16 + 16 + 4 + 1 <= 512; uses++) {
      for (int i = 0; i < 16; i++) {
        due.is("take(0, 0)", x.take(0, 0), uses % 2 == 0 ? 15 - i : i);
      }
      for (int i = 0; i < 16; i++) {
        due.is("back", x.back(uses % 2 == 0 ? i : 15 - i, 0), i + 1);
      }
      for (int i = 0; i < 4; i++) {
        due.is("wash(0)", x.wash(0), 4);
      }
      // Washed from 0 on they lie with 15 uppermost, so each other time they are turned.
      due.is("turn(0)", x.turn(0), uses % 2 == 0 ? 0 : 15);
      calls += 37;
    }
    due.is("store(9)", x.store(9), 16 * ((512 - 16) / 37));
  }

  private static void refusedCallsToTheLastCall() {
    due.about(CALLS + " (a call that throws is a call, too)");
    Undermost x = new Undermost();
    for (int call = 1; call <= 511; call++) {
      int odd = call;
      String told;
      switch (call % 5) {
        case 0: told = Due.thrownBy(() -> x.buy(-odd, 10)); break;
        case 1: told = Due.thrownBy(() -> x.wash(3 + odd)); break;
        case 2: told = Due.thrownBy(() -> x.ofPiece(odd, 0)); break;
        case 3: told = Due.thrownBy(() -> x.drop(odd)); break;
        default: told = Due.thrownBy(() -> x.take(0, 2 + odd));
      }
      due.is("call " + call, told, "IndexOutOfBoundsException");
    }
    due.is("the 512th call", x.digest(), new Undermost().digest());
  }

  private static void dearestCallsToTheLastCall() {
    due.about(CALLS);
    Undermost x = new Undermost();
    for (int i = 0; i < 16; i++) {
      x.buy(i % 3, 60);
    }
    for (int i = 0; i < 12; i++) {
      x.book(i % 3, i, 20);
    }
    long d = x.digest();
    for (int call = 30; call <= 510; call += 4) {
      due.is("digest()", x.digest(), d);
      due.is("shelf(0)", x.shelf(0), "15 12 9 6 3 0");
      due.is("curve(200)", x.curve(200), 1.0);
      due.is("fits(0, 20, 1)", x.fits(0, 20, 1), -1);
    }
  }

  private static void askingChangesNothing() {
    due.about("what is asked; what would be (nothing is changed)");
    Undermost asked = Houses.full();
    Undermost calm = Houses.full();
    for (int times = 0; times < 5; times++) {
      Everything.of(asked);
      due.is("take(0, 1)", asked.take(0, 1), calm.take(0, 1));
      Everything.of(asked);
      due.is("wash(1)", asked.wash(1), calm.wash(1));
      Everything.of(asked);
      due.is("turn(1)", asked.turn(1), calm.turn(1));
      Everything.of(asked);
      due.is("drop", asked.drop(times), calm.drop(times));
      due.is("knock()", asked.knock(), calm.knock());
    }
    due.is("count(0, 1, 2)", asked.count(0, 1, 2), calm.count(0, 1, 2));
    due.is("all that can be asked", Everything.of(asked), Everything.of(calm));
  }

  private static void isDigest(Undermost x) {
    BigInteger d = Checksum.unwrapped(x);
    due.is("it is more than 64 bits can hold", d.bitLength() > 64, true);
    due.is("digest()", x.digest(), d.longValue());
  }

  private static void digestWrapsAround() {
    due.about("which wraps around as a 64-bit integer");
    Undermost x = Houses.full();
    int below = 0;
    int above = 0;
    for (int times = 0; times < 30; times++) {
      x.knock();
      isDigest(x);
      if (x.digest() < 0) {
        below++;
      } else {
        above++;
      }
    }
    due.is("some are below 0, some are not", below > 5 && above > 5, true);
  }

  private static void digestOfNone() {
    due.about("Computes a checksum. A number d starts with 8009");
    Undermost x = new Undermost();
    due.is("what a new house takes up", Checksum.values(x).size(), 11 + 3 * 16 + 3);
    isDigest(x);
    x.buy(0, 10);
    due.is("and with a PIECE", Checksum.values(x).size(), 2 * 11 + 3 * 16 + 3);
    isDigest(x);
    x.book(0, 0, 1);
    due.is("and with a BOOKING", Checksum.values(x).size(), 2 * 11 + 3 * 16 + 6 + 3);
    isDigest(x);
  }

  private static void digestOfTheFullest() {
    due.about("PIECE by PIECE .. BOOKING by BOOKING");
    Undermost x = Houses.full();
    due.is("what it takes up", Checksum.values(x).size(), 11 + 16 * 11 + 3 * 16 + 12 * 6 + 3);
    isDigest(x);
    due.refuses(x, "a 17th PIECE", Due.STATE, () -> x.buy(0, 10));
    due.refuses(x, "a 13th BOOKING", Due.STATE, () -> x.book(0, 0, 1));
    isDigest(x);
  }

  private static void digestCutsProducts() {
    due.about("4096 times curve() of 3, then of 9 (each product cut to a whole number)");
    Undermost x = Houses.withClean(0, 1, 10);
    Houses.use(x, 0, 3, 3);
    due.is("a RAG: curve(3) is 0", x.curve(3), 0.0);
    isDigest(x);
    int[] want = {2048, 2730, 3072, 3276, 3413, 3510};
    for (int i = 0; i < want.length; i++) {
      x.buy(1 + i % 2, 60);
      Houses.use(x, 1 + i % 2, 0, 3);
      due.is("4096 times curve(3), cut", (long) (4096.0 * x.curve(3)), want[i]);
      isDigest(x);
    }
  }
}
