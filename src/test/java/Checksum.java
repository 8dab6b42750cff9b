import java.math.BigInteger;
import java.util.ArrayList;
import java.util.List;

/** Promise 25 by its words: what digest() takes up, and what becomes of it. */
final class Checksum {
  private Checksum() {}

  /** What digest() takes up, in its order. */
  static List<Long> values(Undermost x) {
    List<Long> values = new ArrayList<>();
    for (int what = 0; what <= 10; what++) {
      values.add((long) x.store(what));
    }
    for (int piece = 0; piece < x.store(0); piece++) {
      for (int what = 0; what <= 10; what++) {
        values.add((long) x.ofPiece(piece, what));
      }
    }
    for (int kind = 0; kind <= 2; kind++) {
      for (int what = 0; what <= 9; what++) {
        values.add((long) x.ofKind(kind, what));
      }
      for (int house = 0; house <= 2; house++) {
        values.add((long) x.at(house, kind));
      }
      values.add((long) x.spread(kind, true, 7));
      values.add((long) x.spread(kind, false, 7));
      values.add((long) x.fits(kind, 5, 2));
    }
    for (int booking = 0; booking < x.store(8); booking++) {
      for (int what = 0; what <= 5; what++) {
        values.add((long) x.ofBooking(booking, what));
      }
    }
    values.add((long) (4096.0 * x.curve(3)));
    values.add((long) (4096.0 * x.curve(9)));
    values.add(x.isSound() ? 1L : 0L);
    return values;
  }

  /** The number as it would be without an end, of which a long keeps the lowest 64 bits. */
  static BigInteger unwrapped(Undermost x) {
    BigInteger d = BigInteger.valueOf(8009);
    for (long v : values(x)) {
      d = d.multiply(BigInteger.valueOf(31)).add(BigInteger.valueOf(v));
    }
    return d;
  }
}
