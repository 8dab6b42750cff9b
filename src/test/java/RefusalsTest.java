/**
 * Each promise's "Throws .. if ..": on both sides of each bound, with the least and the greatest int,
 * and, where that can be, in a house in which a later exception of the same promise applies as well.
 */
public final class RefusalsTest {
  private static final int LEAST = Integer.MIN_VALUE;
  private static final int GREATEST = Integer.MAX_VALUE;
  private static final int[] NO_KIND = {LEAST, -1, 3, GREATEST};
  private static final int[] NO_HOUSE = NO_KIND;
  private static final int[] NO_PROGRAMME = {LEAST, -1, 4, GREATEST};
  private static final int[] KINDS = {0, 1, 2};
  private static final int[] HOUSES = KINDS;

  private static final Due due = new Due();

  public static void main(String[] args) {
    buy();
    ruleAndTurnAndShelf();
    take();
    back();
    count();
    found();
    wash();
    mend();
    book();
    drop();
    ofPiece();
    ofKind();
    at();
    ofBooking();
    store();
    spread();
    curve();
    washes();
    fits();
    noSuchPieceOrBooking();
    whatIsBesideIsAnswered();
    twins();
    due.end();
  }

  private static void promise(int number, String thrown) {
    due.about("Promise " + number + ": Throws " + thrown);
  }

  private static void buy() {
    promise(2, "IndexOutOfBoundsException if kind is not 0 to 2");
    for (Undermost x : new Undermost[] {new Undermost(), Houses.full()}) {
      for (int kind : NO_KIND) {
        for (int life : new int[] {LEAST, 9, 10, 60, 61, GREATEST}) {
          due.refuses(x, "buy(" + kind + ", " + life + ")", Due.INDEX, () -> x.buy(kind, life));
        }
      }
    }
    promise(2, "IllegalArgumentException if life is not 10 to 60");
    for (Undermost x : new Undermost[] {new Undermost(), Houses.full()}) {
      for (int kind : KINDS) {
        for (int life : Due.outside(10, 60)) {
          due.refuses(x, "buy(" + kind + ", " + life + ")", Due.ARGUMENT, () -> x.buy(kind, life));
        }
      }
    }
    promise(2, "IllegalStateException if there are 16");
    Undermost full = Houses.full();
    for (int kind : KINDS) {
      for (int life : new int[] {10, 60}) {
        due.refuses(full, "buy(" + kind + ", " + life + ")", Due.STATE, () -> full.buy(kind, life));
      }
    }
  }

  private static void ruleAndTurnAndShelf() {
    for (Undermost x : new Undermost[] {new Undermost(), Houses.full()}) {
      for (int kind : NO_KIND) {
        promise(3, "IndexOutOfBoundsException if kind is not 0 to 2");
        due.refuses(x, "rule(" + kind + ", true)", Due.INDEX, () -> x.rule(kind, true));
        due.refuses(x, "rule(" + kind + ", false)", Due.INDEX, () -> x.rule(kind, false));
        promise(4, "IndexOutOfBoundsException if kind is not 0 to 2");
        due.refuses(x, "turn(" + kind + ")", Due.INDEX, () -> x.turn(kind));
        promise(19, "IndexOutOfBoundsException if kind is not 0 to 2");
        due.refuses(x, "shelf(" + kind + ")", Due.INDEX, () -> x.shelf(kind));
      }
    }
  }

  private static void take() {
    promise(5, "IndexOutOfBoundsException if house or kind is not 0 to 2");
    for (Undermost x : new Undermost[] {new Undermost(), Houses.full()}) {
      for (int no : NO_KIND) {
        for (int other : new int[] {LEAST, -1, 0, 1, 2, 3, GREATEST}) {
          due.refuses(x, "take(" + no + ", " + other + ")", Due.INDEX, () -> x.take(no, other));
          due.refuses(x, "take(" + other + ", " + no + ")", Due.INDEX, () -> x.take(other, no));
        }
      }
    }
    promise(5, "IllegalStateException if there is none on that SHELF");
    Undermost full = Houses.full();
    for (int house : HOUSES) {
      due.refuses(full, "take(" + house + ", 2)", Due.STATE, () -> full.take(house, 2));
    }
  }

  private static void back() {
    promise(6, "IndexOutOfBoundsException if there is no such PIECE");
    Undermost full = Houses.full();
    for (int piece : Due.outside(0, 15)) {
      for (int stain : new int[] {LEAST, -1, 0, 5, 6, GREATEST}) {
        due.refuses(full, "back(" + piece + ", " + stain + ")", Due.INDEX,
            () -> full.back(piece, stain));
      }
    }
    promise(6, "IllegalArgumentException if stain is not 0 to 5");
    for (int piece : new int[] {0, 1, 2, 3, 4, 15}) {
      for (int stain : Due.outside(0, 5)) {
        due.refuses(full, "back(" + piece + ", " + stain + ")", Due.ARGUMENT,
            () -> full.back(piece, stain));
      }
    }
    promise(6, "IllegalStateException if it is not USED");
    for (int piece : new int[] {0, 2, 3, 4, 15}) {
      for (int stain : new int[] {0, 5}) {
        due.refuses(full, "back(" + piece + ", " + stain + ")", Due.STATE,
            () -> full.back(piece, stain));
      }
    }
  }

  private static void count() {
    promise(7, "IndexOutOfBoundsException if house or kind is not 0 to 2");
    Undermost full = Houses.full();
    for (int no : NO_HOUSE) {
      for (int other : new int[] {LEAST, -1, 0, 1, 2, 3, GREATEST}) {
        for (int counted : new int[] {LEAST, -1, 0, 1, GREATEST}) {
          due.refuses(full, "count(" + no + ", " + other + ", " + counted + ")", Due.INDEX,
              () -> full.count(no, other, counted));
          due.refuses(full, "count(" + other + ", " + no + ", " + counted + ")", Due.INDEX,
              () -> full.count(other, no, counted));
        }
      }
    }
    promise(7, "IllegalArgumentException if counted is below 0, or more than it should have");
    for (int house : HOUSES) {
      for (int kind : KINDS) {
        int should = house == 2 && kind == 0 ? 1 : 0;
        for (int counted : Due.outside(0, should)) {
          due.refuses(full, "count(" + house + ", " + kind + ", " + counted + ")", Due.ARGUMENT,
              () -> full.count(house, kind, counted));
        }
      }
    }
  }

  private static void found() {
    promise(8, "IndexOutOfBoundsException if there is no such PIECE");
    Undermost full = Houses.full();
    for (int piece : Due.outside(0, 15)) {
      due.refuses(full, "found(" + piece + ")", Due.INDEX, () -> full.found(piece));
    }
    promise(8, "IllegalStateException if it is not LOST");
    for (int piece : new int[] {0, 1, 2, 3, 15}) {
      due.refuses(full, "found(" + piece + ")", Due.STATE, () -> full.found(piece));
    }
  }

  private static void wash() {
    promise(9, "IndexOutOfBoundsException if programme is not 0 to 3");
    for (Undermost x : new Undermost[] {new Undermost(), Houses.full()}) {
      for (int programme : NO_PROGRAMME) {
        due.refuses(x, "wash(" + programme + ")", Due.INDEX, () -> x.wash(programme));
      }
    }
  }

  private static void mend() {
    promise(10, "IndexOutOfBoundsException if there is no such PIECE");
    Undermost full = Houses.full();
    for (int piece : Due.outside(0, 15)) {
      due.refuses(full, "mend(" + piece + ")", Due.INDEX, () -> full.mend(piece));
    }
    promise(10, "IllegalStateException if it is neither CLEAN nor FOUL, or can not be MENDED");
    for (int piece : new int[] {1, 3, 4}) {
      due.refuses(full, "mend(" + piece + ")", Due.STATE, () -> full.mend(piece));
    }
    for (int i = 0; i < 4; i++) {
      due.is("mend(15)", full.mend(15), 0);
    }
    due.refuses(full, "mend(15) of a LIFE of 4", Due.STATE, () -> full.mend(15));
  }

  private static void book() {
    promise(11, "IndexOutOfBoundsException if kind is not 0 to 2");
    for (Undermost x : new Undermost[] {new Undermost(), Houses.full()}) {
      for (int kind : NO_KIND) {
        for (int from : new int[] {LEAST, -1, 0, 99, 100, GREATEST}) {
          for (int days : new int[] {LEAST, 0, 1, 20, 21, GREATEST}) {
            due.refuses(x, "book(" + kind + ", " + from + ", " + days + ")", Due.INDEX,
                () -> x.book(kind, from, days));
          }
        }
      }
    }
    promise(11, "IllegalArgumentException if from is not 0 to 99, or days not 1 to 20");
    for (Undermost x : new Undermost[] {new Undermost(), Houses.full()}) {
      for (int from : Due.outside(0, 99)) {
        for (int days : new int[] {LEAST, 0, 1, 20, 21, GREATEST}) {
          due.refuses(x, "book(1, " + from + ", " + days + ")", Due.ARGUMENT,
              () -> x.book(1, from, days));
        }
      }
      for (int days : Due.outside(1, 20)) {
        for (int from : new int[] {0, 99}) {
          due.refuses(x, "book(1, " + from + ", " + days + ")", Due.ARGUMENT,
              () -> x.book(1, from, days));
        }
      }
    }
    promise(11, "IllegalStateException if there are 12");
    Undermost full = Houses.full();
    for (int kind : KINDS) {
      for (int from : new int[] {0, 99}) {
        for (int days : new int[] {1, 20}) {
          due.refuses(full, "book(" + kind + ", " + from + ", " + days + ")", Due.STATE,
              () -> full.book(kind, from, days));
        }
      }
    }
  }

  private static void drop() {
    promise(12, "IndexOutOfBoundsException if there is no such BOOKING");
    Undermost full = Houses.full();
    for (int booking : Due.outside(0, 11)) {
      due.refuses(full, "drop(" + booking + ")", Due.INDEX, () -> full.drop(booking));
    }
    promise(12, "IllegalStateException if it is DROPPED");
    due.refuses(full, "drop(11)", Due.STATE, () -> full.drop(11));
  }

  private static void ofPiece() {
    promise(14, "IndexOutOfBoundsException if there is no such PIECE");
    Undermost full = Houses.full();
    for (int piece : Due.outside(0, 15)) {
      for (int what : new int[] {LEAST, -1, 0, 10, 11, GREATEST}) {
        due.refuses(full, "ofPiece(" + piece + ", " + what + ")", Due.INDEX,
            () -> full.ofPiece(piece, what));
      }
    }
    promise(14, "IllegalArgumentException if what is not 0 to 10");
    for (int piece : new int[] {0, 1, 2, 3, 4, 15}) {
      for (int what : Due.outside(0, 10)) {
        due.refuses(full, "ofPiece(" + piece + ", " + what + ")", Due.ARGUMENT,
            () -> full.ofPiece(piece, what));
      }
    }
  }

  private static void ofKind() {
    for (Undermost x : new Undermost[] {new Undermost(), Houses.full()}) {
      promise(15, "IndexOutOfBoundsException if kind is not 0 to 2");
      for (int kind : NO_KIND) {
        for (int what : new int[] {LEAST, -1, 0, 9, 10, GREATEST}) {
          due.refuses(x, "ofKind(" + kind + ", " + what + ")", Due.INDEX,
              () -> x.ofKind(kind, what));
        }
      }
      promise(15, "IllegalArgumentException if what is not 0 to 9");
      for (int kind : KINDS) {
        for (int what : Due.outside(0, 9)) {
          due.refuses(x, "ofKind(" + kind + ", " + what + ")", Due.ARGUMENT,
              () -> x.ofKind(kind, what));
        }
      }
    }
  }

  private static void at() {
    promise(16, "IndexOutOfBoundsException if house or kind is not 0 to 2");
    for (Undermost x : new Undermost[] {new Undermost(), Houses.full()}) {
      for (int no : NO_HOUSE) {
        for (int other : new int[] {LEAST, -1, 0, 1, 2, 3, GREATEST}) {
          due.refuses(x, "at(" + no + ", " + other + ")", Due.INDEX, () -> x.at(no, other));
          due.refuses(x, "at(" + other + ", " + no + ")", Due.INDEX, () -> x.at(other, no));
        }
      }
    }
  }

  private static void ofBooking() {
    promise(17, "IndexOutOfBoundsException if there is no such BOOKING");
    Undermost full = Houses.full();
    for (int booking : Due.outside(0, 11)) {
      for (int what : new int[] {LEAST, -1, 0, 5, 6, GREATEST}) {
        due.refuses(full, "ofBooking(" + booking + ", " + what + ")", Due.INDEX,
            () -> full.ofBooking(booking, what));
      }
    }
    promise(17, "IllegalArgumentException if what is not 0 to 5");
    for (int booking : new int[] {0, 10, 11}) {
      for (int what : Due.outside(0, 5)) {
        due.refuses(full, "ofBooking(" + booking + ", " + what + ")", Due.ARGUMENT,
            () -> full.ofBooking(booking, what));
      }
    }
  }

  private static void store() {
    promise(18, "IllegalArgumentException if what is not 0 to 10");
    for (Undermost x : new Undermost[] {new Undermost(), Houses.full()}) {
      for (int what : Due.outside(0, 10)) {
        due.refuses(x, "store(" + what + ")", Due.ARGUMENT, () -> x.store(what));
      }
    }
  }

  private static void spread() {
    for (Undermost x : new Undermost[] {new Undermost(), Houses.full()}) {
      for (boolean isUnder : new boolean[] {false, true}) {
        promise(20, "IndexOutOfBoundsException if kind is not 0 to 2");
        for (int kind : NO_KIND) {
          for (int rounds : new int[] {LEAST, -1, 0, 99, 100, GREATEST}) {
            due.refuses(x, "spread(" + kind + ", " + isUnder + ", " + rounds + ")", Due.INDEX,
                () -> x.spread(kind, isUnder, rounds));
          }
        }
        promise(20, "IllegalArgumentException if rounds is not 0 to 99");
        for (int kind : KINDS) {
          for (int rounds : Due.outside(0, 99)) {
            due.refuses(x, "spread(" + kind + ", " + isUnder + ", " + rounds + ")", Due.ARGUMENT,
                () -> x.spread(kind, isUnder, rounds));
          }
        }
      }
    }
  }

  private static void curve() {
    promise(21, "IllegalArgumentException if uses is not 0 to 200");
    for (Undermost x : new Undermost[] {new Undermost(), Houses.full()}) {
      for (int uses : Due.outside(0, 200)) {
        due.refuses(x, "curve(" + uses + ")", Due.ARGUMENT, () -> x.curve(uses));
      }
    }
  }

  private static void washes() {
    promise(22, "IndexOutOfBoundsException if there is no such PIECE, or programme is not 0 to 3");
    Undermost full = Houses.full();
    for (int piece : Due.outside(0, 15)) {
      for (int programme : new int[] {LEAST, -1, 0, 3, 4, GREATEST}) {
        due.refuses(full, "washes(" + piece + ", " + programme + ")", Due.INDEX,
            () -> full.washes(piece, programme));
      }
    }
    for (int piece : new int[] {0, 1, 2, 3, 4, 15}) {
      for (int programme : NO_PROGRAMME) {
        due.refuses(full, "washes(" + piece + ", " + programme + ")", Due.INDEX,
            () -> full.washes(piece, programme));
      }
    }
    promise(22, "IllegalStateException if it is not FOUL");
    for (int piece : new int[] {0, 1, 3, 4, 15}) {
      for (int programme : new int[] {0, 3}) {
        due.refuses(full, "washes(" + piece + ", " + programme + ")", Due.STATE,
            () -> full.washes(piece, programme));
      }
    }
  }

  private static void fits() {
    for (Undermost x : new Undermost[] {new Undermost(), Houses.full()}) {
      promise(23, "IndexOutOfBoundsException if kind is not 0 to 2");
      for (int kind : NO_KIND) {
        for (int days : new int[] {LEAST, 0, 1, 20, 21, GREATEST}) {
          for (int pieces : new int[] {LEAST, 0, 1, 12, 13, GREATEST}) {
            due.refuses(x, "fits(" + kind + ", " + days + ", " + pieces + ")", Due.INDEX,
                () -> x.fits(kind, days, pieces));
          }
        }
      }
      promise(23, "IllegalArgumentException if days is not 1 to 20, or pieces not 1 to 12");
      for (int days : Due.outside(1, 20)) {
        for (int pieces : new int[] {LEAST, 0, 1, 12, 13, GREATEST}) {
          due.refuses(x, "fits(2, " + days + ", " + pieces + ")", Due.ARGUMENT,
              () -> x.fits(2, days, pieces));
        }
      }
      for (int pieces : Due.outside(1, 12)) {
        for (int days : new int[] {1, 20}) {
          due.refuses(x, "fits(2, " + days + ", " + pieces + ")", Due.ARGUMENT,
              () -> x.fits(2, days, pieces));
        }
      }
    }
  }

  private static void noSuchPieceOrBooking() {
    due.about("Throws IndexOutOfBoundsException if there is no such PIECE");
    Undermost x = new Undermost();
    for (int many = 0; many < 16; many++) {
      int next = many;
      due.refuses(x, "back(" + next + ", 0)", Due.INDEX, () -> x.back(next, 0));
      due.refuses(x, "found(" + next + ")", Due.INDEX, () -> x.found(next));
      due.refuses(x, "mend(" + next + ")", Due.INDEX, () -> x.mend(next));
      due.refuses(x, "ofPiece(" + next + ", 0)", Due.INDEX, () -> x.ofPiece(next, 0));
      due.refuses(x, "washes(" + next + ", 0)", Due.INDEX, () -> x.washes(next, 0));
      x.buy(next % 3, 20);
      due.is("ofPiece(" + next + ", 0)", x.ofPiece(next, 0), next % 3);
    }
    due.about("Throws IndexOutOfBoundsException if there is no such BOOKING");
    for (int many = 0; many < 12; many++) {
      int next = many;
      due.refuses(x, "drop(" + next + ")", Due.INDEX, () -> x.drop(next));
      due.refuses(x, "ofBooking(" + next + ", 0)", Due.INDEX, () -> x.ofBooking(next, 0));
      x.book(next % 3, 20, 2);
      due.is("ofBooking(" + next + ", 0)", x.ofBooking(next, 0), next % 3);
    }
  }

  private static void answers(String call, Due.Call c) {
    String told = Due.thrownBy(c);
    due.is(call, told.startsWith("nothing but ") ? "an answer" : told, "an answer");
  }

  /** The other side of each bound: where nothing applies, nothing is thrown. */
  private static void whatIsBesideIsAnswered() {
    due.about("Throws .. if ..: and else nothing");
    for (boolean isMost : new boolean[] {false, true}) {
      int k = isMost ? 2 : 0;
      int programme = isMost ? 3 : 0;
      Undermost x = new Undermost();
      answers("buy", () -> x.buy(k, isMost ? 60 : 10));
      answers("rule", () -> x.rule(k, true));
      answers("turn", () -> x.turn(k));
      answers("take", () -> x.take(k, k));
      answers("count", () -> x.count(k, k, 1));
      answers("count", () -> x.count(k, k, 0));
      answers("found", () -> x.found(0));
      answers("washes", () -> x.washes(0, programme));
      answers("mend", () -> x.mend(0));
      answers("wash", () -> x.wash(programme));
      answers("book", () -> x.book(k, isMost ? 99 : 0, isMost ? 20 : 1));
      answers("drop", () -> x.drop(0));
      answers("knock", () -> x.knock());
      answers("ofPiece", () -> x.ofPiece(0, isMost ? 10 : 0));
      answers("ofKind", () -> x.ofKind(k, isMost ? 9 : 0));
      answers("at", () -> x.at(k, k));
      answers("ofBooking", () -> x.ofBooking(0, isMost ? 5 : 0));
      answers("store", () -> x.store(isMost ? 10 : 0));
      answers("shelf", () -> x.shelf(k));
      answers("spread", () -> x.spread(k, isMost, isMost ? 99 : 0));
      answers("curve", () -> x.curve(isMost ? 200 : 0));
      answers("fits", () -> x.fits(k, isMost ? 20 : 1, isMost ? 12 : 1));
      answers("isSound", () -> x.isSound());
      answers("digest", () -> x.digest());
      Undermost y = Houses.withClean(k, 1, 10);
      y.take(0, k);
      answers("back", () -> y.back(0, isMost ? 5 : 0));
    }
  }

  // ---- twins: the same calls on both, and on one refused calls of every promise between them

  private static int any;

  /** A number of 0 to below - 1, the same ones in each run. */
  private static int any(int below) {
    any = any * 1103515245 + 12345;
    return (any >>> 16) % below;
  }

  private static void twins() {
    due.about("A method that throws an exception changes nothing.");
    for (int run = 0; run < 8; run++) {
      any = run;
      Undermost rattled = new Undermost();
      Undermost calm = new Undermost();
      for (int call = 0; call < 250; call++) {
        refuseAll(rattled);
        int number = any(12);
        int a = any(16);
        int b = any(60);
        due.is("call " + call + " of run " + run, step(rattled, number, a, b),
            step(calm, number, a, b));
      }
      due.is("all that can be asked behind run " + run, Everything.of(rattled),
          Everything.of(calm));
    }
  }

  private static String step(Undermost x, int number, int a, int b) {
    switch (number) {
      case 0: return Due.thrownBy(() -> x.buy(a % 3, 10 + b % 51));
      case 1: return Due.thrownBy(() -> x.rule(a % 3, b % 2 == 0));
      case 2: return Due.thrownBy(() -> x.turn(a % 3));
      case 3: case 4: return Due.thrownBy(() -> x.take(b % 3, a % 3));
      case 5: case 6: return backOfAUsedOne(x, a, b);
      case 7: return Due.thrownBy(() -> x.count(b % 3, a % 3, x.at(b % 3, a % 3) / 2));
      case 8: return Due.thrownBy(() -> x.found(a));
      case 9: return Due.thrownBy(() -> x.wash(b % 4));
      case 10: return Due.thrownBy(() -> x.mend(a));
      default: return Due.thrownBy(() -> b % 3 == 0 ? x.drop(a % 12) : x.book(a % 3, b, 1 + a));
    }
  }

  private static String backOfAUsedOne(Undermost x, int a, int b) {
    for (int i = 0; i < x.store(0); i++) {
      int piece = (a + i) % x.store(0);
      if (x.ofPiece(piece, 1) == 1) {
        return Due.thrownBy(() -> x.back(piece, b % 6));
      }
    }
    return "none is USED";
  }

  private static void isThrown(String call, Due.Call c) {
    String told = Due.thrownBy(c);
    boolean isByHand = !told.startsWith("nothing but ") && !told.endsWith(" of the machine");
    due.is(call, isByHand ? "an exception" : told, "an exception");
  }

  private static void refuseAll(Undermost x) {
    for (int no : new int[] {-1, 201}) {
      isThrown("buy", () -> x.buy(no, 10));
      isThrown("buy", () -> x.buy(0, no));
      isThrown("rule", () -> x.rule(no, true));
      isThrown("turn", () -> x.turn(no));
      isThrown("take", () -> x.take(no, 0));
      isThrown("take", () -> x.take(0, no));
      isThrown("back", () -> x.back(no, 0));
      isThrown("back", () -> x.back(0, no));
      isThrown("count", () -> x.count(no, 0, 0));
      isThrown("count", () -> x.count(0, no, 0));
      isThrown("count", () -> x.count(0, 0, no));
      isThrown("found", () -> x.found(no));
      isThrown("wash", () -> x.wash(no));
      isThrown("mend", () -> x.mend(no));
      isThrown("book", () -> x.book(no, 1, 1));
      isThrown("book", () -> x.book(0, no, 1));
      isThrown("book", () -> x.book(0, 1, no));
      isThrown("drop", () -> x.drop(no));
      isThrown("ofPiece", () -> x.ofPiece(0, no));
      isThrown("ofKind", () -> x.ofKind(0, no));
      isThrown("at", () -> x.at(0, no));
      isThrown("ofBooking", () -> x.ofBooking(0, no));
      isThrown("store", () -> x.store(no));
      isThrown("shelf", () -> x.shelf(no));
      isThrown("spread", () -> x.spread(0, true, no));
      isThrown("curve", () -> x.curve(no));
      isThrown("washes", () -> x.washes(0, no));
      isThrown("fits", () -> x.fits(0, 1, no));
    }
    refuseByState(x);
  }

  private static void refuseByState(Undermost x) {
    for (int piece = 0; piece < x.store(0); piece++) {
      int p = piece;
      int state = x.ofPiece(p, 1);
      if (state != 1) {
        isThrown("back", () -> x.back(p, 5));
      }
      if (state != 4) {
        isThrown("found", () -> x.found(p));
      }
      if (state != 2) {
        isThrown("washes", () -> x.washes(p, 0));
      }
      if (state == 1 || state > 2 || x.ofPiece(p, 4) <= 4) {
        isThrown("mend", () -> x.mend(p));
      }
    }
    for (int kind : KINDS) {
      for (int house : HOUSES) {
        int should = x.at(house, kind);
        isThrown("count", () -> x.count(house, kind, should + 1));
        if (x.ofKind(kind, 0) == 0) {
          isThrown("take", () -> x.take(house, kind));
        }
      }
      if (x.store(0) == 16) {
        isThrown("buy", () -> x.buy(kind, 60));
      }
      if (x.store(8) == 12) {
        isThrown("book", () -> x.book(kind, 0, 20));
      }
    }
    for (int booking = 0; booking < x.store(8); booking++) {
      int b = booking;
      if (x.ofBooking(b, 3) == 1) {
        isThrown("drop", () -> x.drop(b));
      }
    }
  }
}
