import java.lang.reflect.Field;
import java.util.ArrayList;
import java.util.List;

/**
 * Promise 24 from within: no calls make a house unsound, so this test breaks one by its private
 * fields, each time another of the things that isSound() tells, and asks for false.
 */
public final class SoundTest {
  private static final Due due = new Due();

  public static void main(String[] args) throws ReflectiveOperationException {
    number(0, "stain", 1);
    number(1, "stain", 1);
    for (int piece = 0; piece <= 2; piece++) {
      number(piece, "wear", 20);
      number(piece, "timesWashed", 9);
    }
    number(4, "wear", 20);
    isStill(2, "stain", 5);
    isStill(3, "wear", 99);
    isStill(2, "timesWashed", 3);
    mendsCountEight();
    eachOnOneShelf();
    foulInTheHamper();
    noOtherInAny();
    seatsAreNeed();
    due.end();
  }

  /** Piece 0 is clean, 1 used, 2 foul, 3 a rag, 4 lost; 5 of kind 1 is clean. A booking each kind. */
  private static Undermost house() {
    Undermost x = new Undermost();
    for (int i = 0; i < 5; i++) {
      x.buy(0, i == 3 ? 12 : 20);
    }
    x.buy(1, 20);
    x.take(0, 0);
    x.count(0, 0, 0);
    for (int i = 0; i < 3; i++) {
      x.take(0, 0);
      x.back(3, 0);
      x.wash(3);
    }
    x.take(0, 0);
    x.back(2, 5);
    x.wash(2);
    x.take(1, 0);
    for (int kind = 0; kind < 3; kind++) {
      x.book(kind, 5, 5);
    }
    for (int piece = 0; piece < 5; piece++) {
      due.is("state of " + piece, x.ofPiece(piece, 1), piece);
    }
    due.is("sound as it is", x.isSound(), true);
    return x;
  }

  private static Object inside(Object of, String field) throws ReflectiveOperationException {
    Field f = of.getClass().getDeclaredField(field);
    f.setAccessible(true);
    return f.get(of);
  }

  private static void put(Object in, String field, int value) throws ReflectiveOperationException {
    Field f = in.getClass().getDeclaredField(field);
    f.setAccessible(true);
    f.setInt(in, value);
  }

  private static List<Object> row(Object of, String field) throws ReflectiveOperationException {
    @SuppressWarnings("unchecked")
    ArrayList<Object> row = (ArrayList<Object>) inside(of, field);
    return row;
  }

  private static Object piece(Undermost x, int number) throws ReflectiveOperationException {
    return row(x, "pieces").get(number);
  }

  private static Object kind(Undermost x, int number) throws ReflectiveOperationException {
    return ((Object[]) inside(x, "kinds"))[number];
  }

  private static void isUnsound(Undermost x, String why) {
    due.is(why, x.isSound(), false);
    due.is(why + ": digest(), with 0 at its end", x.digest(), Checksum.unwrapped(x).longValue());
  }

  private static void number(int piece, String field, int value)
      throws ReflectiveOperationException {
    Undermost x = house();
    put(piece(x, piece), field, value);
    isUnsound(x, field + " of piece " + piece + " is " + value);
  }

  private static void isStill(int piece, String field, int value)
      throws ReflectiveOperationException {
    Undermost x = house();
    put(piece(x, piece), field, value);
    due.is(field + " of piece " + piece + " may be " + value, x.isSound(), true);
  }

  private static void mendsCountEight() throws ReflectiveOperationException {
    Undermost x = house();
    put(piece(x, 0), "timesMended", 2);
    put(piece(x, 0), "wear", 3);
    put(piece(x, 0), "timesWashed", 19);
    due.is("19 washes, 3 of wear and 2 mends", x.isSound(), true);
    put(piece(x, 0), "timesWashed", 20);
    isUnsound(x, "20 washes, 3 of wear and 2 mends");
  }

  private static void eachOnOneShelf() throws ReflectiveOperationException {
    Undermost x = house();
    row(kind(x, 0), "shelf").clear();
    isUnsound(x, "a clean one on no shelf");
    row(kind(x, 2), "shelf").add(piece(x, 0));
    isUnsound(x, "a clean one on the shelf of another kind");
    row(kind(x, 0), "shelf").add(piece(x, 0));
    isUnsound(x, "a clean one on two shelves");
    row(kind(x, 2), "shelf").clear();
    due.is("and back again", x.isSound(), true);
    row(kind(x, 0), "shelf").add(piece(x, 0));
    isUnsound(x, "a clean one on a shelf twice");
    x = house();
    row(x, "hamper").add(piece(x, 0));
    isUnsound(x, "a clean one in the hamper, too");
  }

  private static void foulInTheHamper() throws ReflectiveOperationException {
    Undermost x = house();
    row(x, "hamper").add(piece(x, 2));
    isUnsound(x, "a foul one in the hamper twice");
    row(x, "hamper").clear();
    isUnsound(x, "a foul one not in the hamper");
    row(x, "hamper").add(piece(x, 2));
    due.is("and in it again", x.isSound(), true);
    row(kind(x, 0), "shelf").add(piece(x, 2));
    isUnsound(x, "a foul one on a shelf, too");
  }

  private static void noOtherInAny() throws ReflectiveOperationException {
    for (int number : new int[] {1, 3, 4}) {
      Undermost x = house();
      row(x, "hamper").add(piece(x, number));
      isUnsound(x, "piece " + number + " in the hamper");
      x = house();
      row(kind(x, 0), "shelf").add(piece(x, number));
      isUnsound(x, "piece " + number + " on its shelf");
      x = house();
      row(kind(x, 1), "shelf").add(piece(x, number));
      isUnsound(x, "piece " + number + " on another shelf");
    }
  }

  private static void seatsAreNeed() throws ReflectiveOperationException {
    for (int kind = 0; kind < 3; kind++) {
      Undermost x = house();
      put(row(x, "bookings").get(kind), "seat", 1);
      isUnsound(x, "a seat too high, of kind " + kind);
    }
  }
}
