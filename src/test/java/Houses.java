/** Houses that the tests of the edges begin with, and what these do with them again and again. */
final class Houses {
  private Houses() {}

  /** So many clean pieces of a kind and of this life, 0 undermost. */
  static Undermost withClean(int kind, int many, int life) {
    Undermost x = new Undermost();
    for (int i = 0; i < many; i++) {
      x.buy(kind, life);
    }
    return x;
  }

  /** So many foul pieces of kind 0, in the hamper by their numbers. */
  static Undermost withFoul(int many, int life, int stain) {
    Undermost x = withClean(0, many, life);
    for (int i = 0; i < many; i++) {
      x.take(0, 0);
    }
    for (int i = 0; i < many; i++) {
      x.back(i, stain);
    }
    return x;
  }

  /**
   * Pieces 0 to 4 of kind 0: 0 is clean, 1 used at house 2, 2 foul with a stain of 3, 3 a rag of 2
   * uses with a stain of 1, and 4 lost.
   */
  static Undermost inEachState() {
    Undermost x = new Undermost();
    for (int i = 0; i < 5; i++) {
      x.buy(0, i == 3 ? 10 : 60);
    }
    x.take(0, 0);
    x.count(0, 0, 0);
    for (int i = 0; i < 2; i++) {
      x.take(1, 0);
      x.back(3, 5);
      x.wash(3);
      x.wash(3);
    }
    x.take(1, 0);
    x.back(2, 3);
    x.take(2, 0);
    return x;
  }

  /**
   * The same with 16 pieces and 12 bookings: pieces 5 to 15 are clean ones of kind 1, of kind 2 is
   * none; booking 11 is dropped.
   */
  static Undermost full() {
    Undermost x = inEachState();
    for (int i = 5; i < 16; i++) {
      x.buy(1, 20);
    }
    for (int i = 0; i < 12; i++) {
      x.book(i % 3, 8 * i, 1 + i);
    }
    x.drop(11);
    return x;
  }

  /** The uppermost piece of a kind is taken, comes back without stain and is washed, so often. */
  static void use(Undermost x, int kind, int programme, int times) {
    for (int i = 0; i < times; i++) {
      int piece = x.take(0, kind);
      x.back(piece, 0);
      x.wash(programme);
    }
  }

  /** The numbers in the hamper, from the first one on. */
  static String hamper(Undermost x) {
    StringBuilder row = new StringBuilder();
    for (int place = 0; place < x.store(3); place++) {
      for (int piece = 0; piece < x.store(0); piece++) {
        if (x.ofPiece(piece, 10) == place) {
          row.append(row.length() == 0 ? "" : " ").append(piece);
        }
      }
    }
    return row.toString();
  }

  /** All that ofPiece() tells of a piece. */
  static String piece(Undermost x, int piece) {
    StringBuilder row = new StringBuilder();
    for (int what = 0; what <= 10; what++) {
      row.append(row.length() == 0 ? "" : " ").append(x.ofPiece(piece, what));
    }
    return row.toString();
  }
}
