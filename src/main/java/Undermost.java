import java.util.ArrayList;

/** A linen house that wants all things worn alike; ../shared/DOC.md says what each call does. */
public final class Undermost {
  private static final int NONE = -1;

  private static final int KINDS = 3;
  private static final int HOUSES = 3;
  private static final int PROGRAMMES = 4;
  private static final int MOST_PIECES = 16;
  private static final int MOST_BOOKINGS = 12;

  private static final int LEAST_LIFE = 10;
  private static final int MOST_LIFE = 60;
  private static final int MOST_STAIN = 5;
  private static final int WASHED_AT_ONCE = 4;
  private static final int WEAR_MENDED = 8;
  private static final int LIFE_MENDED = 4;

  private static final int LAST_FROM = 99;
  private static final int MOST_DAYS = 20;
  private static final int LAST_BUSY_DAY = LAST_FROM + MOST_DAYS + 1;
  private static final int MOST_ROUNDS = 99;
  private static final int MOST_USES_ASKED = 200;

  // The states of a piece, by the numbers that ofPiece() tells.
  private static final int CLEAN = 0;
  private static final int USED = 1;
  private static final int FOUL = 2;
  private static final int RAG = 3;
  private static final int LOST = 4;

  private final Kind[] kinds = new Kind[KINDS];
  private final ArrayList<Piece> pieces = new ArrayList<>();
  private final ArrayList<Piece> hamper = new ArrayList<>();
  private final ArrayList<Booking> bookings = new ArrayList<>();
  private int takings;
  private int washCalls;
  private int refused;

  public Undermost() {
    for (int i = 0; i < kinds.length; i++) {
      kinds[i] = new Kind(i);
    }
  }

  // ---- pieces and shelves

  public int buy(int kind, int life)
      throws IndexOutOfBoundsException, IllegalArgumentException, IllegalStateException {
    Kind itsKind = kindNumbered(kind);
    if (life < LEAST_LIFE || life > MOST_LIFE) {
      throw new IllegalArgumentException("life is not 10 to 60");
    }
    if (pieces.size() >= MOST_PIECES) {
      throw new IllegalStateException("there are 16 pieces");
    }
    Piece bought = new Piece(pieces.size(), itsKind, life);
    pieces.add(bought);
    itsKind.putBack(bought);
    return bought.number;
  }

  public boolean rule(int kind, boolean isUnder) throws IndexOutOfBoundsException {
    Kind itsKind = kindNumbered(kind);
    boolean wasUnder = itsKind.isUnder;
    itsKind.isUnder = isUnder;
    return wasUnder;
  }

  public int turn(int kind) throws IndexOutOfBoundsException {
    Kind itsKind = kindNumbered(kind);
    itsKind.turnShelf();
    return itsKind.uppermost();
  }

  // ---- houses

  public int take(int house, int kind) throws IndexOutOfBoundsException, IllegalStateException {
    requireHouse(house);
    ArrayList<Piece> itsShelf = kindNumbered(kind).shelf;
    if (itsShelf.isEmpty()) {
      throw new IllegalStateException("there is none on that shelf");
    }
    Piece taken = itsShelf.remove(0);
    takings++;
    taken.goTo(house, takings);
    return taken.number;
  }

  public int back(int piece, int stain)
      throws IndexOutOfBoundsException, IllegalArgumentException, IllegalStateException {
    Piece returned = pieceNumbered(piece);
    if (stain < 0 || stain > MOST_STAIN) {
      throw new IllegalArgumentException("stain is not 0 to 5");
    }
    if (returned.state != USED) {
      throw new IllegalStateException("it is not used");
    }
    putInHamper(returned, stain);
    return hamper.size();
  }

  public int count(int house, int kind, int counted)
      throws IndexOutOfBoundsException, IllegalArgumentException {
    requireHouse(house);
    Kind itsKind = kindNumbered(kind);
    int should = piecesAt(house, itsKind);
    if (counted < 0 || counted > should) {
      throw new IllegalArgumentException("counted is below 0, or more than it should have");
    }
    for (int left = should; left > counted; left--) {
      loseEarliestTaken(house, itsKind);
    }
    return should - counted;
  }

  public int found(int piece) throws IndexOutOfBoundsException, IllegalStateException {
    Piece lost = pieceNumbered(piece);
    if (lost.state != LOST) {
      throw new IllegalStateException("it is not lost");
    }
    putInHamper(lost, MOST_STAIN);
    return hamper.size();
  }

  // ---- washing and mending

  public int wash(int programme) throws IndexOutOfBoundsException {
    requireProgramme(programme);
    washCalls++;
    int cleaned = 0;
    // Who is put back behind the others is not reached again: the load is no more than the hamper.
    int load = Math.min(WASHED_AT_ONCE, hamper.size());
    for (int i = 0; i < load && !hamper.isEmpty(); i++) {
      Piece washed = hamper.remove(0);
      washed.becomeWashed(programme);
      putWhereItBelongs(washed);
      if (washed.state == CLEAN) {
        cleaned++;
      }
    }
    return cleaned;
  }

  public int mend(int piece) throws IndexOutOfBoundsException, IllegalStateException {
    Piece torn = pieceNumbered(piece);
    if (torn.state != CLEAN && torn.state != FOUL) {
      throw new IllegalStateException("it is neither clean nor foul");
    }
    if (!torn.isMendable()) {
      throw new IllegalStateException("it can not be mended");
    }
    torn.becomeMended();
    return torn.wear;
  }

  // ---- bookings, and the lock

  public int book(int kind, int from, int days)
      throws IndexOutOfBoundsException, IllegalArgumentException, IllegalStateException {
    Kind itsKind = kindNumbered(kind);
    if (from < 0 || from > LAST_FROM) {
      throw new IllegalArgumentException("from is not 0 to 99");
    }
    requireDays(days);
    if (bookings.size() >= MOST_BOOKINGS) {
      throw new IllegalStateException("there are 12 bookings");
    }
    Booking told = new Booking(itsKind, from, days);
    bookings.add(told);
    itsKind.addBooking(told);
    return bookings.size() - 1;
  }

  public int drop(int booking) throws IndexOutOfBoundsException, IllegalStateException {
    Booking dropped = bookingNumbered(booking);
    if (dropped.isDropped) {
      throw new IllegalStateException("it is dropped");
    }
    dropped.isDropped = true;
    dropped.kind.removeBooking(dropped);
    return dropped.kind.need();
  }

  public int knock() {
    refused++;
    return refused;
  }

  // ---- what is asked

  public int ofPiece(int piece, int what)
      throws IndexOutOfBoundsException, IllegalArgumentException {
    Piece asked = pieceNumbered(piece);
    switch (what) {
      case 0: return asked.kind.number;
      case 1: return asked.state;
      case 2: return asked.uses;
      case 3: return asked.wear;
      case 4: return asked.life;
      case 5: return asked.stain;
      case 6: return asked.timesWashed;
      case 7: return asked.timesMended;
      case 8: return asked.house;
      case 9: return placeIn(asked.kind.shelf, asked);
      case 10: return placeIn(hamper, asked);
      default: throw new IllegalArgumentException("what is not 0 to 10");
    }
  }

  public int ofKind(int kind, int what)
      throws IndexOutOfBoundsException, IllegalArgumentException {
    Kind asked = kindNumbered(kind);
    switch (what) {
      case 0: return asked.shelf.size();
      case 1: return asked.uppermost();
      case 2: return asked.undermost();
      case 3: return asked.isUnder ? 1 : 0;
      case 4: return spreadOfAll(asked);
      case 5: return asked.need();
      case 6: return asked.worstDay();
      case 7: return asked.seats();
      case 8: return wearablePieces(asked);
      case 9: return Math.max(0, asked.need() - wearablePieces(asked));
      default: throw new IllegalArgumentException("what is not 0 to 9");
    }
  }

  public int at(int house, int kind) throws IndexOutOfBoundsException {
    requireHouse(house);
    return piecesAt(house, kindNumbered(kind));
  }

  public int ofBooking(int booking, int what)
      throws IndexOutOfBoundsException, IllegalArgumentException {
    Booking asked = bookingNumbered(booking);
    switch (what) {
      case 0: return asked.kind.number;
      case 1: return asked.from;
      case 2: return asked.days;
      case 3: return asked.isDropped ? 1 : 0;
      case 4: return asked.isDropped ? NONE : asked.seat;
      case 5: return asked.lastDay();
      default: throw new IllegalArgumentException("what is not 0 to 5");
    }
  }

  public int store(int what) throws IllegalArgumentException {
    switch (what) {
      case 0: return pieces.size();
      case 1: return piecesThatAre(CLEAN);
      case 2: return piecesThatAre(USED);
      case 3: return piecesThatAre(FOUL);
      case 4: return piecesThatAre(RAG);
      case 5: return piecesThatAre(LOST);
      case 6: return washCalls;
      case 7: return mendsOfAll();
      case 8: return bookings.size();
      case 9: return usesOfAll();
      case 10: return refused;
      default: throw new IllegalArgumentException("what is not 0 to 10");
    }
  }

  public String shelf(int kind) throws IndexOutOfBoundsException {
    ArrayList<Piece> itsShelf = kindNumbered(kind).shelf;
    if (itsShelf.isEmpty()) {
      return "-";
    }
    StringBuilder text = new StringBuilder();
    for (int i = 0; i < itsShelf.size(); i++) {
      if (i > 0) {
        text.append(' ');
      }
      text.append(itsShelf.get(i).number);
    }
    return text.toString();
  }

  // ---- what would be

  public int spread(int kind, boolean isUnder, int rounds)
      throws IndexOutOfBoundsException, IllegalArgumentException {
    ArrayList<Piece> itsShelf = kindNumbered(kind).shelf;
    if (rounds < 0 || rounds > MOST_ROUNDS) {
      throw new IllegalArgumentException("rounds is not 0 to 99");
    }
    int most = NONE;
    int fewest = NONE;
    for (int i = 0; i < itsShelf.size(); i++) {
      int uses = itsShelf.get(i).uses + roundsOfPlace(i, itsShelf.size(), isUnder, rounds);
      most = most == NONE ? uses : Math.max(most, uses);
      fewest = fewest == NONE ? uses : Math.min(fewest, uses);
    }
    return most - fewest;
  }

  public double curve(int uses) throws IllegalArgumentException {
    if (uses < 0 || uses > MOST_USES_ASKED) {
      throw new IllegalArgumentException("uses is not 0 to 200");
    }
    double part = 1.0;
    for (int t = 0; t <= uses; t++) {
      int ended = ragsWithUses(t);
      int seen = piecesWithUsesFrom(t);
      if (ended > 0 && seen > 0) {
        part = part * (1.0 - (double) ended / (double) seen);
      }
    }
    return part;
  }

  public int washes(int piece, int programme)
      throws IndexOutOfBoundsException, IllegalStateException {
    Piece asked = pieceNumbered(piece);
    requireProgramme(programme);
    if (asked.state != FOUL) {
      throw new IllegalStateException("it is not foul");
    }
    return asked.washesUntilClean(programme);
  }

  public int fits(int kind, int days, int pieces)
      throws IndexOutOfBoundsException, IllegalArgumentException {
    Kind itsKind = kindNumbered(kind);
    requireDays(days);
    if (pieces < 1 || pieces > MOST_BOOKINGS) {
      throw new IllegalArgumentException("pieces is not 1 to 12");
    }
    if (itsKind.need() > pieces) {
      return NONE;
    }
    for (int from = 0; from <= LAST_FROM; from++) {
      if (itsKind.mostBusy(from, from + days + 1) < pieces) {
        return from;
      }
    }
    return NONE;
  }

  public boolean isSound() {
    for (int i = 0; i < kinds.length; i++) {
      if (kinds[i].seats() != kinds[i].need()) {
        return false;
      }
    }
    for (int i = 0; i < pieces.size(); i++) {
      Piece piece = pieces.get(i);
      if (!isWherePiecesOfItsStateAre(piece) || !piece.isSoundInItself()) {
        return false;
      }
    }
    return true;
  }

  public long digest() {
    long d = 8009;
    for (int what = 0; what <= 10; what++) {
      d = mixed(d, store(what));
    }
    d = mixedWithPieces(d);
    for (int kind = 0; kind < KINDS; kind++) {
      d = mixedWithKind(d, kind);
    }
    d = mixedWithBookings(d);
    d = mixed(d, (long) (4096.0 * curve(3)));
    d = mixed(d, (long) (4096.0 * curve(9)));
    return mixed(d, isSound() ? 1 : 0);
  }

  // ---- the numbers that calls name

  private Kind kindNumbered(int number) {
    if (number < 0 || number >= kinds.length) {
      throw new IndexOutOfBoundsException("kind is not 0 to 2");
    }
    return kinds[number];
  }

  private Piece pieceNumbered(int number) {
    if (number < 0 || number >= pieces.size()) {
      throw new IndexOutOfBoundsException("there is no such piece");
    }
    return pieces.get(number);
  }

  private Booking bookingNumbered(int number) {
    if (number < 0 || number >= bookings.size()) {
      throw new IndexOutOfBoundsException("there is no such booking");
    }
    return bookings.get(number);
  }

  private static void requireHouse(int house) {
    if (house < 0 || house >= HOUSES) {
      throw new IndexOutOfBoundsException("house is not 0 to 2");
    }
  }

  private static void requireProgramme(int programme) {
    if (programme < 0 || programme >= PROGRAMMES) {
      throw new IndexOutOfBoundsException("programme is not 0 to 3");
    }
  }

  private static void requireDays(int days) {
    if (days < 1 || days > MOST_DAYS) {
      throw new IllegalArgumentException("days is not 1 to 20");
    }
  }

  // ---- where pieces go

  private void putInHamper(Piece piece, int stain) {
    piece.state = FOUL;
    piece.stain = stain;
    piece.house = NONE;
    hamper.add(piece);
  }

  private void putWhereItBelongs(Piece washed) {
    if (washed.state == FOUL) {
      hamper.add(washed);
    } else if (washed.state == CLEAN) {
      washed.kind.putBack(washed);
    }
  }

  private void loseEarliestTaken(int house, Kind kind) {
    Piece earliest = null;
    for (int i = 0; i < pieces.size(); i++) {
      Piece piece = pieces.get(i);
      if (piece.isAt(house, kind)
          && (earliest == null || piece.lastTaking < earliest.lastTaking)) {
        earliest = piece;
      }
    }
    if (earliest != null) {
      earliest.state = LOST;
      earliest.house = NONE;
    }
  }

  private static int placeIn(ArrayList<Piece> row, Piece piece) {
    for (int i = 0; i < row.size(); i++) {
      if (row.get(i) == piece) {
        return i;
      }
    }
    return NONE;
  }

  private static int timesIn(ArrayList<Piece> row, Piece piece) {
    int times = 0;
    for (int i = 0; i < row.size(); i++) {
      if (row.get(i) == piece) {
        times++;
      }
    }
    return times;
  }

  private boolean isWherePiecesOfItsStateAre(Piece piece) {
    int onShelves = 0;
    for (int i = 0; i < kinds.length; i++) {
      onShelves += timesIn(kinds[i].shelf, piece);
    }
    int dueOnShelves = piece.state == CLEAN ? 1 : 0;
    int dueInHamper = piece.state == FOUL ? 1 : 0;
    return onShelves == dueOnShelves
        && timesIn(piece.kind.shelf, piece) == dueOnShelves
        && timesIn(hamper, piece) == dueInHamper;
  }

  // ---- how many pieces

  private int piecesAt(int house, Kind kind) {
    int many = 0;
    for (int i = 0; i < pieces.size(); i++) {
      if (pieces.get(i).isAt(house, kind)) {
        many++;
      }
    }
    return many;
  }

  private int piecesThatAre(int state) {
    int many = 0;
    for (int i = 0; i < pieces.size(); i++) {
      if (pieces.get(i).state == state) {
        many++;
      }
    }
    return many;
  }

  private int wearablePieces(Kind kind) {
    int many = 0;
    for (int i = 0; i < pieces.size(); i++) {
      if (pieces.get(i).isWearableOf(kind)) {
        many++;
      }
    }
    return many;
  }

  private int mendsOfAll() {
    int sum = 0;
    for (int i = 0; i < pieces.size(); i++) {
      sum += pieces.get(i).timesMended;
    }
    return sum;
  }

  private int usesOfAll() {
    int sum = 0;
    for (int i = 0; i < pieces.size(); i++) {
      sum += pieces.get(i).uses;
    }
    return sum;
  }

  private int ragsWithUses(int uses) {
    int many = 0;
    for (int i = 0; i < pieces.size(); i++) {
      Piece piece = pieces.get(i);
      if (piece.state == RAG && piece.uses == uses) {
        many++;
      }
    }
    return many;
  }

  private int piecesWithUsesFrom(int uses) {
    int many = 0;
    for (int i = 0; i < pieces.size(); i++) {
      if (pieces.get(i).uses >= uses) {
        many++;
      }
    }
    return many;
  }

  // ---- how even

  private int spreadOfAll(Kind kind) {
    int most = NONE;
    int fewest = NONE;
    for (int i = 0; i < pieces.size(); i++) {
      Piece piece = pieces.get(i);
      if (piece.isWearableOf(kind)) {
        most = most == NONE ? piece.uses : Math.max(most, piece.uses);
        fewest = fewest == NONE ? piece.uses : Math.min(fewest, piece.uses);
      }
    }
    return most - fewest;
  }

  /** By TOP the uppermost one has every round; by UNDER the pile goes round, one round a place. */
  private static int roundsOfPlace(int place, int size, boolean isUnder, int rounds) {
    if (!isUnder || size <= 0) {
      return place == 0 ? rounds : 0;
    }
    return rounds / size + (place < rounds % size ? 1 : 0);
  }

  // ---- the checksum

  private static long mixed(long d, long v) {
    return d * 31 + v;
  }

  private long mixedWithPieces(long before) {
    long d = before;
    for (int piece = 0; piece < pieces.size(); piece++) {
      for (int what = 0; what <= 10; what++) {
        d = mixed(d, ofPiece(piece, what));
      }
    }
    return d;
  }

  private long mixedWithKind(long before, int kind) {
    long d = before;
    for (int what = 0; what <= 9; what++) {
      d = mixed(d, ofKind(kind, what));
    }
    for (int house = 0; house < HOUSES; house++) {
      d = mixed(d, at(house, kind));
    }
    d = mixed(d, spread(kind, true, 7));
    d = mixed(d, spread(kind, false, 7));
    return mixed(d, fits(kind, 5, 2));
  }

  private long mixedWithBookings(long before) {
    long d = before;
    for (int booking = 0; booking < bookings.size(); booking++) {
      for (int what = 0; what <= 5; what++) {
        d = mixed(d, ofBooking(booking, what));
      }
    }
    return d;
  }

  /** A piece of linen. */
  private static final class Piece {
    final int number;
    final Kind kind;
    int life;
    int state = CLEAN;
    int uses;
    int wear;
    int stain;
    int timesWashed;
    int timesMended;
    int house = NONE;
    int lastTaking;

    Piece(int number, Kind kind, int life) {
      this.number = number;
      this.kind = kind;
      this.life = life;
    }

    boolean isAt(int someHouse, Kind someKind) {
      return state == USED && house == someHouse && kind == someKind;
    }

    boolean isWearableOf(Kind someKind) {
      return kind == someKind && state != RAG && state != LOST;
    }

    void goTo(int itsHouse, int taking) {
      state = USED;
      house = itsHouse;
      lastTaking = taking;
      uses++;
    }

    void becomeWashed(int programme) {
      timesWashed++;
      wear += 1 + programme;
      stain = Math.max(0, stain - programme - 1);
      if (wear >= life) {
        state = RAG;
      } else {
        state = stain > 0 ? FOUL : CLEAN;
      }
    }

    /** Wear only grows by washing, so who is no rag at the end was none on the way. */
    int washesUntilClean(int programme) {
      int strength = Math.max(1, programme + 1);
      int needed = Math.max(1, (stain + strength - 1) / strength);
      return wear + needed * strength >= life ? NONE : needed;
    }

    int wearIfMended() {
      return Math.max(0, wear - WEAR_MENDED);
    }

    boolean isMendable() {
      return wearIfMended() < life - LIFE_MENDED;
    }

    void becomeMended() {
      wear = wearIfMended();
      life -= LIFE_MENDED;
      timesMended++;
    }

    boolean isSoundInItself() {
      boolean mayHaveStain = state != CLEAN && state != USED;
      return (mayHaveStain || stain == 0)
          && (state == RAG || wear < life)
          && timesWashed <= wear + WEAR_MENDED * timesMended;
    }
  }

  /** A kind with its shelf, its rule, and its bookings that are not dropped. */
  private static final class Kind {
    final int number;
    /** From the uppermost one on. */
    final ArrayList<Piece> shelf = new ArrayList<>();
    /** By the day from which, of the same one by number. */
    final ArrayList<Booking> booked = new ArrayList<>();
    /** How many bookings are busy, day by day. */
    final int[] busy = new int[LAST_BUSY_DAY + 1];
    boolean isUnder;

    Kind(int number) {
      this.number = number;
    }

    void putBack(Piece piece) {
      if (isUnder) {
        shelf.add(piece);
      } else {
        shelf.add(0, piece);
      }
    }

    void turnShelf() {
      for (int i = 0; i < shelf.size(); i++) {
        Piece lowest = shelf.remove(shelf.size() - 1);
        shelf.add(i, lowest);
      }
    }

    int uppermost() {
      return shelf.isEmpty() ? NONE : shelf.get(0).number;
    }

    int undermost() {
      return shelf.isEmpty() ? NONE : shelf.get(shelf.size() - 1).number;
    }

    void addBooking(Booking told) {
      int place = 0;
      while (place < booked.size() && booked.get(place).from <= told.from) {
        place++;
      }
      booked.add(place, told);
      addToBusyDays(told, 1);
      giveSeats();
    }

    void removeBooking(Booking dropped) {
      for (int i = 0; i < booked.size(); i++) {
        if (booked.get(i) == dropped) {
          booked.remove(i);
          addToBusyDays(dropped, -1);
          giveSeats();
          return;
        }
      }
    }

    private void addToBusyDays(Booking booking, int more) {
      int last = Math.min(booking.lastDay(), busy.length - 1);
      for (int day = Math.max(0, booking.from); day <= last; day++) {
        busy[day] += more;
      }
    }

    int mostBusy(int firstDay, int lastDay) {
      int most = 0;
      int last = Math.min(lastDay, busy.length - 1);
      for (int day = Math.max(0, firstDay); day <= last; day++) {
        most = Math.max(most, busy[day]);
      }
      return most;
    }

    int need() {
      return mostBusy(0, LAST_BUSY_DAY);
    }

    int worstDay() {
      int need = need();
      for (int day = 0; day < busy.length; day++) {
        if (need > 0 && busy[day] == need) {
          return day;
        }
      }
      return NONE;
    }

    private void giveSeats() {
      for (int i = 0; i < booked.size(); i++) {
        Booking booking = booked.get(i);
        int seat = 0;
        while (seat < i && isSeatHeld(seat, i, booking.from)) {
          seat++;
        }
        booking.seat = seat;
      }
    }

    private boolean isSeatHeld(int seat, int placesAhead, int from) {
      for (int i = 0; i < placesAhead && i < booked.size(); i++) {
        Booking ahead = booked.get(i);
        if (ahead.seat == seat && ahead.lastDay() >= from) {
          return true;
        }
      }
      return false;
    }

    /** Each seat below a given one is held by another booking, so the highest one tells how many. */
    int seats() {
      int many = 0;
      for (int i = 0; i < booked.size(); i++) {
        many = Math.max(many, booked.get(i).seat + 1);
      }
      return many;
    }
  }

  /** A booking; its seat is that of now, and says nothing once it is dropped. */
  private static final class Booking {
    final Kind kind;
    final int from;
    final int days;
    boolean isDropped;
    int seat;

    Booking(Kind kind, int from, int days) {
      this.kind = kind;
      this.from = from;
      this.days = days;
    }

    int lastDay() {
      return from + days + 1;
    }
  }
}
