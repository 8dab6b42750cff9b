/** Promises 11 to 13: book, drop, knock. */
public final class BookingsTest {
  private static final Due due = new Due();

  public static void main(String[] args) {
    bookNumbers();
    bookLimits();
    bookWrong();
    bookTwelve();
    needByDays();
    worstDayIsTheFirst();
    seatsByFrom();
    seatsOfTheSameDayByNumber();
    seatIsFreeTheDayBehindTheWashing();
    dropAnswersNeed();
    dropWrong();
    knockCounts();
    due.end();
  }

  /** Promise 11. */
  private static void bookNumbers() {
    Undermost x = new Undermost();
    due.is("book(2, 7, 4)", x.book(2, 7, 4), 0);
    due.is("book(0, 1, 1)", x.book(0, 1, 1), 1);
    int[][] want = {{2, 7, 4, 0, 0, 12}, {0, 1, 1, 0, 0, 3}};
    for (int booking = 0; booking < 2; booking++) {
      for (int what = 0; what <= 5; what++) {
        due.is("ofBooking(" + booking + ", " + what + ")", x.ofBooking(booking, what),
            want[booking][what]);
      }
    }
    due.is("bookings", x.store(8), 2);
    due.is("a booking is no piece", x.store(0), 0);
  }

  private static void bookLimits() {
    Undermost x = new Undermost();
    due.is("from day 0", x.book(0, 0, 1), 0);
    due.is("from day 99", x.book(0, 99, 1), 1);
    due.is("1 day", x.ofBooking(0, 5), 2);
    due.is("20 days", x.book(0, 99, 20), 2);
    due.is("the last day of all", x.ofBooking(2, 5), 120);
    due.is("NEED", x.ofKind(0, 5), 2);
    due.is("WORST", x.ofKind(0, 6), 99);
  }

  private static void bookWrong() {
    Undermost x = new Undermost();
    x.book(1, 5, 5);
    due.refuses(x, "book(3, 0, 1)", Due.INDEX, () -> x.book(3, 0, 1));
    due.refuses(x, "book(-1, 0, 1)", Due.INDEX, () -> x.book(-1, 0, 1));
    due.refuses(x, "book(3, -1, 0)", Due.INDEX, () -> x.book(3, -1, 0));
    due.refuses(x, "book(0, -1, 1)", Due.ARGUMENT, () -> x.book(0, -1, 1));
    due.refuses(x, "book(0, 100, 1)", Due.ARGUMENT, () -> x.book(0, 100, 1));
    due.refuses(x, "book(0, 0, 0)", Due.ARGUMENT, () -> x.book(0, 0, 0));
    due.refuses(x, "book(0, 0, 21)", Due.ARGUMENT, () -> x.book(0, 0, 21));
    due.refuses(x, "book(0, min, 1)", Due.ARGUMENT, () -> x.book(0, Integer.MIN_VALUE, 1));
    due.refuses(x, "book(0, 0, max)", Due.ARGUMENT, () -> x.book(0, 0, Integer.MAX_VALUE));
  }

  private static void bookTwelve() {
    Undermost x = new Undermost();
    for (int i = 0; i < 12; i++) {
      due.is("book one more", x.book(0, 50, 1), i);
      due.is("its seat", x.ofBooking(i, 4), i);
    }
    due.is("NEED of 12", x.ofKind(0, 5), 12);
    due.is("SEATS of 12", x.ofKind(0, 7), 12);
    due.refuses(x, "the 13th", Due.STATE, () -> x.book(1, 0, 1));
    due.refuses(x, "the 13th, of no kind", Due.INDEX, () -> x.book(3, 0, 0));
    due.refuses(x, "the 13th, from no day", Due.ARGUMENT, () -> x.book(0, 100, 1));
    x.drop(3);
    due.refuses(x, "the 13th, where one is dropped", Due.STATE, () -> x.book(1, 0, 1));
  }

  private static void needByDays() {
    Undermost x = new Undermost();
    x.book(0, 10, 3);
    due.is("NEED of one", x.ofKind(0, 5), 1);
    due.is("WORST of one", x.ofKind(0, 6), 10);
    x.book(0, 15, 1);
    due.is("a day behind the two for the washing", x.ofKind(0, 5), 1);
    x.book(0, 14, 1);
    due.is("on the last of them", x.ofKind(0, 5), 2);
    due.is("WORST of these", x.ofKind(0, 6), 14);
    x.book(1, 14, 1);
    due.is("another kind is not counted", x.ofKind(0, 5), 2);
    due.is("NEED of the other kind", x.ofKind(1, 5), 1);
    due.is("fewer pieces than NEED", x.ofKind(0, 9), 2);
  }

  private static void worstDayIsTheFirst() {
    Undermost x = new Undermost();
    x.book(0, 60, 2);
    x.book(0, 62, 2);
    x.book(0, 20, 2);
    x.book(0, 23, 2);
    due.is("two days are as bad", x.ofKind(0, 6), 23);
    x.book(0, 62, 1);
    due.is("one is worse", x.ofKind(0, 6), 62);
    x.book(1, 0, 1);
    due.is("day 0", x.ofKind(1, 6), 0);
    x.book(1, 40, 20);
    due.is("day 0, and as bad later", x.ofKind(1, 6), 0);
  }

  private static void seatsByFrom() {
    Undermost x = new Undermost();
    x.book(0, 30, 10);
    x.book(0, 20, 15);
    x.book(0, 10, 12);
    x.book(0, 36, 1);
    due.is("seat of the first day", x.ofBooking(2, 4), 0);
    due.is("seat of the second day", x.ofBooking(1, 4), 1);
    due.is("seat of the third day", x.ofBooking(0, 4), 0);
    due.is("seat of the last day", x.ofBooking(3, 4), 2);
    due.is("SEATS", x.ofKind(0, 7), 3);
    x.book(0, 37, 1);
    due.is("the smallest one that is free", x.ofBooking(4, 4), 1);
    x.drop(2);
    due.is("seats move up", x.ofBooking(1, 4), 0);
    due.is("seats move up", x.ofBooking(0, 4), 1);
    due.is("a dropped one has none", x.ofBooking(2, 4), -1);
    due.is("a dropped one is told", x.ofBooking(2, 3), 1);
    due.is("last day of a dropped one", x.ofBooking(2, 5), 23);
  }

  private static void seatsOfTheSameDayByNumber() {
    Undermost x = new Undermost();
    x.book(0, 8, 1);
    x.book(1, 8, 1);
    x.book(0, 8, 20);
    x.book(0, 8, 5);
    due.is("seat of 0", x.ofBooking(0, 4), 0);
    due.is("seat of 1, another kind", x.ofBooking(1, 4), 0);
    due.is("seat of 2", x.ofBooking(2, 4), 1);
    due.is("seat of 3", x.ofBooking(3, 4), 2);
  }

  private static void seatIsFreeTheDayBehindTheWashing() {
    Undermost x = new Undermost();
    x.book(0, 0, 3);
    x.book(0, 4, 1);
    due.is("busy up to day 4", x.ofBooking(1, 4), 1);
    x.book(0, 5, 1);
    due.is("free on day 5", x.ofBooking(2, 4), 0);
  }

  /** Promise 12. */
  private static void dropAnswersNeed() {
    Undermost x = new Undermost();
    x.book(0, 10, 5);
    x.book(0, 12, 5);
    x.book(0, 14, 5);
    x.book(1, 14, 5);
    due.is("drop(1)", x.drop(1), 2);
    due.is("WORST behind it", x.ofKind(0, 6), 14);
    due.is("drop(0)", x.drop(0), 1);
    due.is("WORST behind that", x.ofKind(0, 6), 14);
    due.is("drop(2)", x.drop(2), 0);
    due.is("WORST without any", x.ofKind(0, 6), -1);
    due.is("SEATS without any", x.ofKind(0, 7), 0);
    due.is("the other kind", x.ofKind(1, 5), 1);
    due.is("dropped ones are bookings", x.store(8), 4);
    due.is("the next number", x.book(0, 10, 1), 4);
  }

  private static void dropWrong() {
    Undermost x = new Undermost();
    due.refuses(x, "drop(0) of none", Due.INDEX, () -> x.drop(0));
    x.book(0, 1, 1);
    x.book(0, 1, 1);
    due.refuses(x, "drop(2)", Due.INDEX, () -> x.drop(2));
    due.refuses(x, "drop(-1)", Due.INDEX, () -> x.drop(-1));
    x.drop(1);
    due.refuses(x, "drop(1) again", Due.STATE, () -> x.drop(1));
  }

  /** Promise 13. */
  private static void knockCounts() {
    Undermost x = new Undermost();
    due.is("knock()", x.knock(), 1);
    due.is("knock() again", x.knock(), 2);
    due.is("store(10)", x.store(10), 2);
    due.refuses(x, "another refusal", Due.ARGUMENT, () -> x.store(11));
    due.is("knock() a third time", x.knock(), 3);
    due.is("another house's lock", new Undermost().knock(), 1);
  }
}
