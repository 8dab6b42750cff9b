/** Part 5 of the document at its edges, sentence by sentence: bookings, seats, fits() and the lock. */
public final class EdgesOfBookingsTest {
  private static final String TWELVE = "BOOKINGS: at most 12, numbered from 0";
  private static final String BUSY =
      "It is BUSY on the days FROM to FROM + DAYS + 1 (two days more, for the washing).";
  private static final String NEED =
      "NEED of a KIND: how many BOOKINGS of it that are not DROPPED are BUSY on one day at most";
  private static final String WORST =
      "the WORST day is the first on which that is so (NONE, if NEED is 0)";
  private static final String SEAT =
      "each has the smallest number of 0 and more that no BOOKING ahead has whose last BUSY day is "
      + "FROM or later";
  private static final String ORDER =
      "BOOKING by BOOKING of it that is not DROPPED, by FROM, of the same one by number";
  private static final String SEATS = "SEATS is how many numbers are used.";
  private static final String FITS =
      "the first day FROM (0 to 99) on which a BOOKING more of so many DAYS would leave NEED no more "
      + "than that";

  private static final Due due = new Due();

  public static void main(String[] args) {
    twelveBookings();
    droppedOnesAreOfTheTwelve();
    fromAsTold();
    daysAsTold();
    lastDayOfEach();
    droppedOnce();
    dropAnswersNeed();
    busyTwoDaysMore();
    busyOnItsFirstDay();
    needOfItsKind();
    needOfNone();
    needOfNotDroppedOnes();
    fewerThanNeed();
    worstIsTheFirst();
    worstAtTheEnds();
    worstOfNone();
    seatHeldUpToTheLastDay();
    seatIsTheSmallest();
    seatsByFromThenNumber();
    seatsOfTwelve();
    seatsOfItsKind();
    seatsAreGivenAnew();
    seatOfADroppedOne();
    droppedBehindOthers();
    fitsOnTheFirstDay();
    fitsOnTheLastDay();
    fitsInAGap();
    fitsForMore();
    fitsWithTwelve();
    fitsWhereNeedIsMore();
    fitsOfNotDroppedOnes();
    fitsArguments();
    lockCountsWhoRattles();
    due.end();
  }

  private static void book(Undermost x, int kind, int... fromAndDays) {
    for (int i = 0; i < fromAndDays.length; i += 2) {
      x.book(kind, fromAndDays[i], fromAndDays[i + 1]);
    }
  }

  /** The seats of all bookings, by their numbers. */
  private static String seats(Undermost x) {
    StringBuilder row = new StringBuilder();
    for (int booking = 0; booking < x.store(8); booking++) {
      row.append(row.length() == 0 ? "" : " ").append(x.ofBooking(booking, 4));
    }
    return row.toString();
  }

  private static void twelveBookings() {
    due.about(TWELVE);
    for (int kind = 0; kind <= 2; kind++) {
      Undermost x = new Undermost();
      due.is("BOOKINGS", x.store(8), 0);
      for (int i = 0; i < 12; i++) {
        due.is("book the next", x.book(kind, 9 * i, 1), i);
        due.is("BOOKINGS", x.store(8), i + 1);
      }
      for (int k = 0; k <= 2; k++) {
        int other = k;
        due.refuses(x, "the 13th", Due.STATE, () -> x.book(other, 0, 1));
        due.refuses(x, "the 13th at the other ends", Due.STATE, () -> x.book(other, 99, 20));
      }
      due.is("FROM of the 12th", x.ofBooking(11, 1), 99);
      due.is("FROM of the first", x.ofBooking(0, 1), 0);
    }
  }

  private static void droppedOnesAreOfTheTwelve() {
    due.about(TWELVE + " .. it can be DROPPED");
    Undermost x = new Undermost();
    for (int i = 0; i < 12; i++) {
      x.book(0, 5, 5);
      x.drop(i);
    }
    due.is("BOOKINGS", x.store(8), 12);
    due.is("NEED", x.ofKind(0, 5), 0);
    due.refuses(x, "the 13th", Due.STATE, () -> x.book(0, 5, 5));
  }

  private static void fromAsTold() {
    due.about("FROM a day (0 to 99)");
    Undermost x = new Undermost();
    int[] days = {0, 1, 98, 99};
    for (int i = 0; i < days.length; i++) {
      due.is("book(0, " + days[i] + ", 3)", x.book(0, days[i], 3), i);
      due.is("FROM", x.ofBooking(i, 1), days[i]);
      due.is("DAYS", x.ofBooking(i, 2), 3);
      due.is("last BUSY day", x.ofBooking(i, 5), days[i] + 4);
    }
    for (int from : Due.outside(0, 99)) {
      due.refuses(x, "book(0, " + from + ", 3)", Due.ARGUMENT, () -> x.book(0, from, 3));
    }
    due.is("the next number behind the refused ones", x.book(0, 50, 3), 4);
  }

  private static void daysAsTold() {
    due.about("for so many DAYS (1 to 20)");
    Undermost x = new Undermost();
    int[] days = {1, 2, 19, 20};
    for (int i = 0; i < days.length; i++) {
      due.is("book(0, 50, " + days[i] + ")", x.book(0, 50, days[i]), i);
      due.is("FROM", x.ofBooking(i, 1), 50);
      due.is("DAYS", x.ofBooking(i, 2), days[i]);
      due.is("last BUSY day", x.ofBooking(i, 5), 51 + days[i]);
    }
    for (int wrong : new int[] {Integer.MIN_VALUE, -1, 0, 21, Integer.MAX_VALUE}) {
      due.refuses(x, "book(0, 50, " + wrong + ")", Due.ARGUMENT, () -> x.book(0, 50, wrong));
    }
    due.is("the next number behind the refused ones", x.book(0, 50, 3), 4);
  }

  private static void lastDayOfEach() {
    due.about("5 FROM + DAYS + 1 (of a DROPPED one, too)");
    Undermost x = new Undermost();
    book(x, 1, 0, 1, 0, 20, 99, 1, 99, 20);
    int[] last = {2, 21, 101, 120};
    for (int i = 0; i < 4; i++) {
      due.is("last BUSY day of " + i, x.ofBooking(i, 5), last[i]);
      x.drop(i);
      due.is("last BUSY day of " + i + ", DROPPED", x.ofBooking(i, 5), last[i]);
      due.is("it is DROPPED", x.ofBooking(i, 3), 1);
      due.is("KIND, FROM, DAYS of it",
          x.ofBooking(i, 0) + " " + x.ofBooking(i, 1) + " " + x.ofBooking(i, 2),
          "1 " + (i < 2 ? 0 : 99) + " " + (i % 2 == 0 ? 1 : 20));
    }
  }

  private static void droppedOnce() {
    due.about("Throws IllegalStateException if it is DROPPED");
    Undermost x = new Undermost();
    due.refuses(x, "drop(0) of none", Due.INDEX, () -> x.drop(0));
    book(x, 0, 5, 5, 6, 6);
    for (int booking : Due.outside(0, 1)) {
      due.refuses(x, "drop(" + booking + ")", Due.INDEX, () -> x.drop(booking));
    }
    due.is("drop(1)", x.drop(1), 1);
    due.refuses(x, "drop(1) again", Due.STATE, () -> x.drop(1));
    due.is("drop(0)", x.drop(0), 0);
    due.refuses(x, "drop(0) again", Due.STATE, () -> x.drop(0));
    due.refuses(x, "drop(2)", Due.INDEX, () -> x.drop(2));
  }

  private static void dropAnswersNeed() {
    due.about("Returns NEED of its KIND then.");
    Undermost x = new Undermost();
    book(x, 0, 10, 1, 12, 1, 14, 1);
    book(x, 1, 12, 1, 12, 1);
    due.is("NEED", x.ofKind(0, 5), 2);
    due.is("the first of three in a row", x.drop(0), 2);
    due.is("the one between", x.drop(1), 1);
    due.is("one of another KIND", x.drop(3), 1);
    due.is("the last one", x.drop(2), 0);
    due.is("NEED of the other KIND", x.ofKind(1, 5), 1);
  }

  private static void busyTwoDaysMore() {
    due.about(BUSY);
    for (int days : new int[] {1, 2, 20}) {
      for (int gap = -1; gap <= 1; gap++) {
        Undermost x = new Undermost();
        book(x, 2, 30, days, 31 + days + gap, 1);
        due.is("the other " + gap + " days from the last of " + days, x.ofKind(2, 5),
            gap <= 0 ? 2 : 1);
        due.is("WORST", x.ofKind(2, 6), gap <= 0 ? 31 + days + gap : 30);
        due.is("SEATS", x.ofKind(2, 7), gap <= 0 ? 2 : 1);
      }
    }
  }

  private static void busyOnItsFirstDay() {
    due.about(BUSY);
    for (int last = 29; last <= 31; last++) {
      Undermost x = new Undermost();
      book(x, 0, 30, 5, last - 3, 2);
      due.is("the other one is BUSY up to day " + last, x.ofBooking(1, 5), last);
      due.is("NEED", x.ofKind(0, 5), last < 30 ? 1 : 2);
      due.is("WORST", x.ofKind(0, 6), last < 30 ? 26 : 30);
    }
  }

  private static void needOfItsKind() {
    due.about(NEED);
    Undermost x = new Undermost();
    book(x, 0, 5, 5, 6, 5);
    book(x, 1, 5, 5, 6, 5, 7, 5);
    due.is("KIND 0", x.ofKind(0, 5), 2);
    due.is("KIND 1", x.ofKind(1, 5), 3);
    due.is("KIND 2", x.ofKind(2, 5), 0);
    Undermost y = new Undermost();
    book(y, 0, 0, 3, 5, 3, 10, 3, 15, 3);
    due.is("four, never two on one day", y.ofKind(0, 5), 1);
    book(y, 0, 4, 1);
    due.is("two on one day", y.ofKind(0, 5), 2);
    book(y, 0, 20, 3, 19, 20);
    due.is("two on day 19 and two on day 20", y.ofKind(0, 5), 2);
    book(y, 0, 18, 1);
    due.is("three on both", y.ofKind(0, 5), 3);
  }

  private static void needOfNone() {
    due.about(NEED);
    Undermost x = new Undermost();
    for (int kind = 0; kind <= 2; kind++) {
      due.is("NEED", x.ofKind(kind, 5), 0);
      due.is("WORST", x.ofKind(kind, 6), -1);
      due.is("SEATS", x.ofKind(kind, 7), 0);
      due.is("fewer than NEED", x.ofKind(kind, 9), 0);
    }
  }

  private static void needOfNotDroppedOnes() {
    due.about(NEED);
    Undermost x = new Undermost();
    for (int i = 0; i < 12; i++) {
      book(x, 0, 50, 5);
      due.is("NEED", x.ofKind(0, 5), i + 1);
    }
    for (int i = 0; i < 12; i++) {
      due.is("drop(" + i + ")", x.drop(i), 11 - i);
      due.is("NEED", x.ofKind(0, 5), 11 - i);
      due.is("SEATS", x.ofKind(0, 7), 11 - i);
      due.is("WORST", x.ofKind(0, 6), i < 11 ? 50 : -1);
    }
  }

  private static void fewerThanNeed() {
    due.about("9 by how many these are fewer than NEED (0 at least)");
    Undermost x = new Undermost();
    book(x, 0, 5, 5, 5, 5);
    int[] fewer = {2, 1, 0, 0};
    for (int many = 0; many < fewer.length; many++) {
      due.is(many + " for a NEED of 2", x.ofKind(0, 9), fewer[many]);
      due.is("PIECES", x.ofKind(0, 8), many);
      x.buy(0, 60);
    }
    for (int i = 0; i < 3; i++) {
      x.take(0, 0);
    }
    due.is("USED ones are of these", x.ofKind(0, 9), 0);
    x.back(3, 5);
    due.is("FOUL ones are of these", x.ofKind(0, 8), 4);
    x.count(0, 0, 0);
    due.is("LOST ones are not", x.ofKind(0, 8), 2);
    x.take(0, 0);
    x.count(0, 0, 0);
    due.is("one for a NEED of 2", x.ofKind(0, 9), 1);
    due.is("none for no NEED", x.ofKind(1, 9), 0);
  }

  private static void worstIsTheFirst() {
    due.about(WORST);
    Undermost x = new Undermost();
    book(x, 0, 40, 3);
    due.is("one", x.ofKind(0, 6), 40);
    book(x, 0, 20, 3);
    due.is("as many on an earlier day", x.ofKind(0, 6), 20);
    book(x, 0, 44, 3);
    due.is("more on a later day", x.ofKind(0, 6), 44);
    book(x, 0, 24, 1);
    due.is("as many on an earlier day again", x.ofKind(0, 6), 24);
    x.drop(3);
    due.is("fewer there", x.ofKind(0, 6), 44);
    x.drop(2);
    due.is("one on a day", x.ofKind(0, 6), 20);
  }

  private static void worstAtTheEnds() {
    due.about(WORST);
    Undermost x = new Undermost();
    book(x, 0, 0, 1);
    due.is("day 0", x.ofKind(0, 6), 0);
    book(x, 1, 99, 20);
    due.is("day 99", x.ofKind(1, 6), 99);
    book(x, 1, 79, 20);
    due.is("day 99 of two", x.ofKind(1, 6), 99);
    book(x, 2, 99, 1, 97, 1);
    due.is("day 99, the last of one", x.ofKind(2, 6), 99);
    book(x, 0, 2, 1);
    due.is("day 2", x.ofKind(0, 6), 2);
  }

  private static void worstOfNone() {
    due.about(WORST);
    Undermost x = new Undermost();
    due.is("no BOOKINGS", x.ofKind(0, 6), -1);
    book(x, 0, 0, 1);
    due.is("of another KIND", x.ofKind(1, 6), -1);
    x.drop(0);
    due.is("all are DROPPED", x.ofKind(0, 6), -1);
  }

  private static void seatHeldUpToTheLastDay() {
    due.about(SEAT);
    for (int days = 1; days <= 20; days++) {
      Undermost x = new Undermost();
      book(x, 0, 10, days, 10 + days, 1, 11 + days, 1, 12 + days, 1);
      // The first is BUSY up to 11 + days: whoever comes on that day finds its seat held.
      due.is("seats behind one of " + days + " DAYS", seats(x), "0 1 2 0");
    }
  }

  private static void seatIsTheSmallest() {
    due.about(SEAT);
    Undermost x = new Undermost();
    book(x, 0, 0, 20, 1, 1, 2, 20, 3, 2);
    due.is("four at once", seats(x), "0 1 2 3");
    book(x, 0, 4, 1);
    due.is("1 is free, between 0 and 2", seats(x), "0 1 2 3 1");
    book(x, 0, 7, 1);
    due.is("1 and 3 are free", seats(x), "0 1 2 3 1 1");
    book(x, 0, 8, 1);
    due.is("3 is free", seats(x), "0 1 2 3 1 1 3");
    book(x, 0, 25, 1);
    due.is("all are free", seats(x), "0 1 2 3 1 1 3 0");
    due.is("SEATS", x.ofKind(0, 7), 4);
  }

  private static void seatsByFromThenNumber() {
    due.about(ORDER);
    Undermost x = new Undermost();
    book(x, 0, 9, 3, 8, 3, 9, 20, 7, 1, 8, 1);
    due.is("days 9, 8, 9, 7, 8", seats(x), "3 1 4 0 2");
    book(x, 0, 10, 1, 0, 20);
    due.is("days 10 and 0, too", seats(x), "4 2 5 1 3 1 0");
    Undermost y = new Undermost();
    book(y, 0, 5, 20, 5, 1, 5, 10);
    due.is("the same day: by number, not by DAYS", seats(y), "0 1 2");
  }

  private static void seatsOfTwelve() {
    due.about(SEATS);
    Undermost x = new Undermost();
    for (int i = 0; i < 12; i++) {
      book(x, 0, 99 - i, 20);
      due.is("SEATS", x.ofKind(0, 7), i + 1);
      due.is("the last one told is the first one by FROM", x.ofBooking(i, 4), 0);
    }
    due.is("seats", seats(x), "11 10 9 8 7 6 5 4 3 2 1 0");
    Undermost y = new Undermost();
    for (int i = 0; i < 12; i++) {
      book(y, 0, 3 * i, 1);
    }
    due.is("one behind the other", seats(y), "0 0 0 0 0 0 0 0 0 0 0 0");
    due.is("SEATS of these", y.ofKind(0, 7), 1);
  }

  private static void seatsOfItsKind() {
    due.about("SEATS of a KIND");
    Undermost x = new Undermost();
    book(x, 0, 5, 5);
    book(x, 1, 5, 5);
    book(x, 0, 6, 5);
    book(x, 2, 0, 20);
    book(x, 1, 4, 5);
    due.is("seats", seats(x), "0 1 1 0 0");
    due.is("SEATS", "" + x.ofKind(0, 7) + x.ofKind(1, 7) + x.ofKind(2, 7), "221");
  }

  private static void seatsAreGivenAnew() {
    due.about(SEAT);
    Undermost x = new Undermost();
    book(x, 0, 10, 5, 12, 5, 14, 5);
    due.is("seats", seats(x), "0 1 2");
    book(x, 0, 8, 1);
    due.is("one comes ahead", seats(x), "1 0 2 0");
    x.drop(3);
    due.is("it is DROPPED", seats(x), "0 1 2 -1");
    x.drop(0);
    due.is("the first one, too", seats(x), "-1 0 1 -1");
    due.is("SEATS", x.ofKind(0, 7), 2);
    x.drop(2);
    due.is("the last one, too", seats(x), "-1 0 -1 -1");
    due.is("SEATS", x.ofKind(0, 7), 1);
  }

  private static void seatOfADroppedOne() {
    due.about("4 its SEAT (NONE, if it is DROPPED)");
    Undermost x = new Undermost();
    book(x, 0, 5, 5, 6, 5);
    x.drop(0);
    due.is("seats", seats(x), "-1 0");
    due.is("it is DROPPED", x.ofBooking(0, 3), 1);
    due.is("the other one is not", x.ofBooking(1, 3), 0);
    book(x, 0, 5, 5);
    due.is("one as the DROPPED one", seats(x), "-1 1 0");
    x.drop(1);
    x.drop(2);
    due.is("SEATS", x.ofKind(0, 7), 0);
  }

  /** Whichever is dropped, by its place among them: it alone holds no seat and is busy no more. */
  private static void droppedBehindOthers() {
    due.about("BOOKING by BOOKING of it that is not DROPPED");
    String[] left = {"-1 0 1 2", "0 -1 1 2", "0 1 -1 2", "0 1 2 -1"};
    for (int dropped = 0; dropped < left.length; dropped++) {
      Undermost x = new Undermost();
      book(x, 0, 10, 5, 11, 5, 12, 5, 13, 5);
      due.is("drop(" + dropped + ") of four in a row", x.drop(dropped), 3);
      due.is("seats without " + dropped, seats(x), left[dropped]);
      due.is("SEATS without " + dropped, x.ofKind(0, 7), 3);
      due.is("WORST without " + dropped, x.ofKind(0, 6), dropped < 3 ? 13 : 12);
      due.is("isSound() without " + dropped, x.isSound(), true);
      book(x, 0, 12, 1);
      due.is("seats with one more", seats(x), dropped == 0 ? "-1 0 1 3 2"
          : dropped == 1 ? "0 -1 1 3 2" : dropped == 2 ? "0 1 -1 3 2" : "0 1 2 -1 3");
    }
  }

  private static void fitsOnTheFirstDay() {
    due.about(FITS);
    Undermost x = new Undermost();
    for (int pieces = 1; pieces <= 12; pieces++) {
      for (int days = 1; days <= 20; days++) {
        due.is("fits(0, " + days + ", " + pieces + ") without any", x.fits(0, days, pieces), 0);
      }
    }
    for (int days = 1; days <= 20; days++) {
      x = new Undermost();
      book(x, 0, days + 1, 1, 60, 20);
      due.is("its last day is that of the other one, of " + days, x.fits(0, days, 1), days + 4);
      x = new Undermost();
      book(x, 0, days + 2, 1, 60, 20);
      due.is("its last day is just before the other one, of " + days, x.fits(0, days, 1), 0);
    }
  }

  private static void fitsOnTheLastDay() {
    due.about(FITS + "; NONE without one");
    int[] last = {97, 98, 99, 100};
    int[] want = {98, 99, -1, -1};
    for (int i = 0; i < last.length; i++) {
      Undermost x = new Undermost();
      book(x, 1, 0, 20, 22, 20, 44, 20, 66, 16, 84, last[i] - 85);
      due.is("BUSY up to " + last[i], x.ofBooking(4, 5), last[i]);
      for (int days : new int[] {1, 20}) {
        due.is("fits(1, " + days + ", 1), BUSY up to day " + last[i], x.fits(1, days, 1), want[i]);
        due.is("for two", x.fits(1, days, 2), 0);
      }
    }
  }

  private static void fitsInAGap() {
    due.about(FITS);
    Undermost x = new Undermost();
    book(x, 0, 0, 8, 20, 20);
    due.is("free are 10 days, from day 10 on", x.ofBooking(0, 5), 9);
    due.is("8 DAYS, BUSY on 10", x.fits(0, 8, 1), 10);
    due.is("9 DAYS, BUSY on 11", x.fits(0, 9, 1), 42);
    due.is("1 DAY, BUSY on 3", x.fits(0, 1, 1), 10);
    x.book(0, 10, 1);
    due.is("free are 7 days: 5 DAYS", x.fits(0, 5, 1), 13);
    due.is("free are 7 days: 6 DAYS", x.fits(0, 6, 1), 42);
  }

  private static void fitsForMore() {
    due.about(FITS);
    Undermost x = new Undermost();
    for (int i = 0; i < 4; i++) {
      book(x, 2, 3 * i, 20);
    }
    due.is("NEED", x.ofKind(2, 5), 4);
    due.is("for 3: NEED is more", x.fits(2, 1, 3), -1);
    due.is("for 4, of 1: from 0 on up to 3", x.fits(2, 1, 4), 0);
    due.is("for 4, of 7: BUSY up to 8", x.fits(2, 7, 4), 0);
    due.is("for 4, of 8: BUSY up to 9, where all are", x.fits(2, 8, 4), 22);
    due.is("for 5", x.fits(2, 20, 5), 0);
    due.is("for 12", x.fits(2, 20, 12), 0);
  }

  private static void fitsWithTwelve() {
    due.about("(also with 12 BOOKINGS)");
    Undermost x = new Undermost();
    for (int i = 0; i < 11; i++) {
      book(x, 0, 0, 20);
    }
    due.is("11 for 11", x.fits(0, 20, 11), 22);
    due.is("11 for 12", x.fits(0, 20, 12), 0);
    book(x, 0, 0, 20);
    due.is("12 for 12", x.fits(0, 20, 12), 22);
    due.is("12 for 11", x.fits(0, 20, 11), -1);
    due.is("of another KIND", x.fits(1, 20, 1), 0);
    due.is("none is told by that", x.store(8), 12);
    for (int i = 0; i < 11; i++) {
      x.drop(i);
    }
    due.is("12, of which 11 are DROPPED", x.fits(0, 20, 1), 22);
    x.drop(11);
    due.is("12, all DROPPED", x.fits(0, 20, 1), 0);
  }

  private static void fitsWhereNeedIsMore() {
    due.about("would leave NEED no more than that: NEED of all days");
    Undermost x = new Undermost();
    book(x, 0, 50, 1, 50, 1);
    due.is("for 1, where no day fits", x.fits(0, 1, 1), -1);
    due.is("for 2, on the first day", x.fits(0, 1, 2), 0);
    x.drop(0);
    due.is("for 1, where one is DROPPED", x.fits(0, 1, 1), 0);
  }

  private static void fitsOfNotDroppedOnes() {
    due.about("NEED of a KIND: how many .. not DROPPED");
    Undermost x = new Undermost();
    book(x, 0, 0, 20, 22, 20);
    book(x, 1, 44, 20);
    due.is("behind both", x.fits(0, 20, 1), 44);
    x.drop(0);
    due.is("where the first was", x.fits(0, 20, 1), 0);
    x.drop(1);
    due.is("of another KIND", x.fits(1, 20, 1), 0);
    due.is("of another KIND, in front of 44", x.fits(1, 3, 1), 0);
  }

  private static void fitsArguments() {
    due.about("Throws IllegalArgumentException if days is not 1 to 20, or pieces not 1 to 12");
    Undermost x = Houses.full();
    for (int kind = 0; kind <= 2; kind++) {
      int k = kind;
      for (int days : new int[] {Integer.MIN_VALUE, -1, 0, 21, Integer.MAX_VALUE}) {
        due.refuses(x, "fits(" + k + ", " + days + ", 1)", Due.ARGUMENT, () -> x.fits(k, days, 1));
      }
      for (int pieces : new int[] {Integer.MIN_VALUE, -1, 0, 13, Integer.MAX_VALUE}) {
        due.refuses(x, "fits(" + k + ", 1, " + pieces + ")", Due.ARGUMENT,
            () -> x.fits(k, 1, pieces));
      }
    }
    Undermost y = new Undermost();
    due.is("fits(2, 1, 1)", y.fits(2, 1, 1), 0);
    due.is("fits(2, 20, 12)", y.fits(2, 20, 12), 0);
  }

  private static void lockCountsWhoRattles() {
    due.about("The STORE has a LOCK: who rattles at it is REFUSED (counted).");
    Undermost x = new Undermost();
    due.is("none", x.store(10), 0);
    for (int i = 1; i <= 20; i++) {
      due.is("knock()", x.knock(), i);
      due.is("store(10)", x.store(10), i);
    }
    due.refuses(x, "a call that is refused is no knock", Due.INDEX, () -> x.buy(3, 10));
    due.is("knock() behind it", x.knock(), 21);
  }
}
