import com.sun.management.ThreadMXBean;
import java.lang.management.ManagementFactory;

/**
 * The room that calls take, in bytes: an element takes 8 of them at most, an object 16 at least. All
 * calls of a run live in one room of some 600,000 objects with 7.3 million fields and elements.
 */
public final class RoomTest {
  private static final int CALLS = 512;
  private static final ThreadMXBean THREADS =
      (ThreadMXBean) ManagementFactory.getThreadMXBean();

  private static final Due due = new Due();

  /** So that no answer is left out as one that nobody asks for. */
  private static long sum;

  public static void main(String[] args) {
    due.is("bytes are measured here", bytes() > 0, true);
    // Once for the classes to be loaded, once to be measured.
    for (int times = 0; times < 2; times++) {
      newObjects(times == 1);
      asking(times == 1);
      texts(times == 1);
      changing(times == 1);
    }
    due.is("answers were looked at", sum != 0, true);
    due.end();
  }

  private static long bytes() {
    return THREADS.getCurrentThreadAllocatedBytes();
  }

  private static void isAtMost(boolean isMeasured, String what, long got, long most) {
    if (isMeasured) {
      due.is(what + ": " + got + " bytes are " + most + " at most", got <= most, true);
    }
  }

  private static void newObjects(boolean isMeasured) {
    long before = bytes();
    for (int i = 0; i < CALLS; i++) {
      sum += new Undermost().knock();
    }
    isAtMost(isMeasured, "a new object", (bytes() - before) / CALLS, 4000);
  }

  private static void asking(boolean isMeasured) {
    Undermost x = Houses.full();
    long before = bytes();
    for (int i = 0; i < CALLS; i++) {
      sum += x.digest() + x.fits(0, 20, 1) + (long) x.curve(200) + x.washes(2, 0);
      sum += x.spread(1, true, 99) + x.ofKind(0, 9) + x.ofPiece(15, 10) + x.ofBooking(11, 5);
      sum += x.at(0, 0) + x.store(9) + (x.isSound() ? 1 : 0);
    }
    isAtMost(isMeasured, "all that is asked, but for shelf()", bytes() - before, 1000);
  }

  private static void texts(boolean isMeasured) {
    Undermost x = Houses.withClean(0, 16, 60);
    long before = bytes();
    for (int i = 0; i < CALLS; i++) {
      sum += x.shelf(0).length();
    }
    isAtMost(isMeasured, "shelf() of 16", (bytes() - before) / CALLS, 500);
  }

  private static void changing(boolean isMeasured) {
    Undermost x = Houses.withClean(0, 16, 60);
    for (int i = 0; i < 16; i++) {
      x.take(0, 0);
    }
    for (int i = 0; i < 16; i++) {
      x.back(i, 5);
    }
    long before = bytes();
    for (int i = 0; i < CALLS; i++) {
      sum += x.wash(i % 4) + x.turn(0) + x.knock() + x.count(0, 0, 0);
      sum += x.rule(0, i % 2 == 0) ? 1 : 0;
    }
    isAtMost(isMeasured, "what changes the house", bytes() - before, 4000);
    before = bytes();
    Undermost y = new Undermost();
    for (int i = 0; i < 16; i++) {
      sum += y.buy(i % 3, 60);
    }
    for (int i = 0; i < 12; i++) {
      sum += y.book(i % 3, i, 20);
    }
    for (int i = 0; i < 12; i++) {
      sum += y.drop(i);
    }
    isAtMost(isMeasured, "all pieces and bookings", bytes() - before, 12000);
  }
}
