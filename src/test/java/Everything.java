/** All that an object can be asked, as one text: two objects that differ in an answer differ here. */
final class Everything {
  private Everything() {}

  static String of(Undermost x) {
    StringBuilder text = new StringBuilder();
    for (int what = 0; what <= 10; what++) {
      text.append(x.store(what)).append(' ');
    }
    for (int piece = 0; piece < x.store(0); piece++) {
      text.append("\npiece ").append(piece).append(':');
      for (int what = 0; what <= 10; what++) {
        text.append(' ').append(x.ofPiece(piece, what));
      }
      for (int programme = 0; programme <= 3 && x.ofPiece(piece, 1) == 2; programme++) {
        text.append(' ').append(x.washes(piece, programme));
      }
    }
    for (int kind = 0; kind < 3; kind++) {
      addKind(text, x, kind);
    }
    for (int booking = 0; booking < x.store(8); booking++) {
      text.append("\nbooking ").append(booking).append(':');
      for (int what = 0; what <= 5; what++) {
        text.append(' ').append(x.ofBooking(booking, what));
      }
    }
    text.append("\ncurve:");
    for (int uses = 0; uses <= 200; uses += uses < 20 ? 1 : 45) {
      text.append(' ').append(x.curve(uses));
    }
    return text.append("\nsound ").append(x.isSound()).append(' ').append(x.digest()).toString();
  }

  private static void addKind(StringBuilder text, Undermost x, int kind) {
    text.append("\nkind ").append(kind).append(':');
    for (int what = 0; what <= 9; what++) {
      text.append(' ').append(x.ofKind(kind, what));
    }
    for (int house = 0; house < 3; house++) {
      text.append(' ').append(x.at(house, kind));
    }
    text.append(" [").append(x.shelf(kind)).append(']');
    for (int rounds = 0; rounds <= 99; rounds += 11) {
      text.append(' ').append(x.spread(kind, true, rounds));
      text.append(' ').append(x.spread(kind, false, rounds));
    }
    for (int needed = 1; needed <= 12; needed++) {
      text.append(' ').append(x.fits(kind, 3, needed)).append(' ').append(x.fits(kind, 20, needed));
    }
  }
}
