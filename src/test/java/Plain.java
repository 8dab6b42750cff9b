import java.util.ArrayList;
import java.util.List;
import java.util.TreeSet;

/**
 * The document written a second time, by its words and with nothing kept that can be worked out: the
 * runs of RunsTest compare the class with it. It shares no code with the class.
 */
final class Plain {
  static final class Linen {
    int kind;
    int life;
    String state = "CLEAN";
    int uses;
    int wear;
    int stain;
    int washes;
    int mends;
    int house = -1;
    long taken;
  }

  static final class Told {
    int kind;
    int from;
    int days;
    boolean dropped;

    boolean isBusy(int day) {
      return day >= from && day <= from + days + 1;
    }
  }

  private static final List<String> STATES = List.of("CLEAN", "USED", "FOUL", "RAG", "LOST");

  private final List<Linen> linens = new ArrayList<>();
  private final List<List<Integer>> piles = new ArrayList<>();
  private final boolean[] under = new boolean[3];
  private final List<Integer> hamper = new ArrayList<>();
  private final List<Told> tolds = new ArrayList<>();
  private long clock;
  private int washCalls;
  private int refused;

  Plain() {
    for (int i = 0; i < 3; i++) {
      piles.add(new ArrayList<>());
    }
  }

  private static void index(int i, int below) {
    if (i < 0 || i >= below) {
      throw new IndexOutOfBoundsException();
    }
  }

  private static void argument(int a, int least, int most) {
    if (a < least || a > most) {
      throw new IllegalArgumentException();
    }
  }

  private static void state(boolean isSo) {
    if (!isSo) {
      throw new IllegalStateException();
    }
  }

  private void clean(int n) {
    Linen l = linens.get(n);
    l.state = "CLEAN";
    List<Integer> pile = piles.get(l.kind);
    pile.add(under[l.kind] ? pile.size() : 0, n);
  }

  int buy(int kind, int life) {
    index(kind, 3);
    argument(life, 10, 60);
    state(linens.size() < 16);
    Linen l = new Linen();
    l.kind = kind;
    l.life = life;
    linens.add(l);
    clean(linens.size() - 1);
    return linens.size() - 1;
  }

  boolean rule(int kind, boolean isUnder) {
    index(kind, 3);
    boolean was = under[kind];
    under[kind] = isUnder;
    return was;
  }

  int turn(int kind) {
    index(kind, 3);
    List<Integer> turned = new ArrayList<>();
    for (int n : piles.get(kind)) {
      turned.add(0, n);
    }
    piles.set(kind, turned);
    return turned.isEmpty() ? -1 : turned.get(0);
  }

  int take(int house, int kind) {
    index(house, 3);
    index(kind, 3);
    state(!piles.get(kind).isEmpty());
    int n = piles.get(kind).remove(0);
    Linen l = linens.get(n);
    l.state = "USED";
    l.house = house;
    l.uses++;
    l.taken = ++clock;
    return n;
  }

  private int foul(Linen l, int stain) {
    l.state = "FOUL";
    l.house = -1;
    l.stain = stain;
    hamper.add(linens.indexOf(l));
    return hamper.size();
  }

  int back(int piece, int stain) {
    index(piece, linens.size());
    argument(stain, 0, 5);
    state(linens.get(piece).state.equals("USED"));
    return foul(linens.get(piece), stain);
  }

  int count(int house, int kind, int counted) {
    index(house, 3);
    index(kind, 3);
    List<Linen> there = new ArrayList<>();
    for (Linen l : linens) {
      if (l.kind == kind && l.house == house) {
        there.add(l);
      }
    }
    argument(counted, 0, there.size());
    there.sort((a, b) -> Long.compare(a.taken, b.taken));
    int missing = there.size() - counted;
    for (Linen l : there.subList(0, missing)) {
      l.state = "LOST";
      l.house = -1;
    }
    return missing;
  }

  int found(int piece) {
    index(piece, linens.size());
    state(linens.get(piece).state.equals("LOST"));
    return foul(linens.get(piece), 5);
  }

  int wash(int programme) {
    index(programme, 4);
    washCalls++;
    List<Integer> load = new ArrayList<>();
    while (load.size() < 4 && !hamper.isEmpty()) {
      load.add(hamper.remove(0));
    }
    int cleaned = 0;
    for (int n : load) {
      Linen l = linens.get(n);
      l.washes++;
      l.wear += 1 + programme;
      l.stain = l.stain < programme + 1 ? 0 : l.stain - (programme + 1);
      if (l.wear >= l.life) {
        l.state = "RAG";
      } else if (l.stain != 0) {
        hamper.add(n);
      } else {
        clean(n);
        cleaned++;
      }
    }
    return cleaned;
  }

  int mend(int piece) {
    index(piece, linens.size());
    Linen l = linens.get(piece);
    state(l.state.equals("CLEAN") || l.state.equals("FOUL"));
    int wear = l.wear < 8 ? 0 : l.wear - 8;
    state(wear < l.life - 4);
    l.wear = wear;
    l.life -= 4;
    l.mends++;
    return wear;
  }

  int book(int kind, int from, int days) {
    index(kind, 3);
    argument(from, 0, 99);
    argument(days, 1, 20);
    state(tolds.size() < 12);
    Told t = new Told();
    t.kind = kind;
    t.from = from;
    t.days = days;
    tolds.add(t);
    return tolds.size() - 1;
  }

  int drop(int booking) {
    index(booking, tolds.size());
    state(!tolds.get(booking).dropped);
    tolds.get(booking).dropped = true;
    return ofKind(tolds.get(booking).kind, 5);
  }

  int knock() {
    return ++refused;
  }

  int ofPiece(int piece, int what) {
    index(piece, linens.size());
    argument(what, 0, 10);
    Linen l = linens.get(piece);
    int[] all = {l.kind, STATES.indexOf(l.state), l.uses, l.wear, l.life, l.stain, l.washes, l.mends,
        l.house, piles.get(l.kind).indexOf(piece), hamper.indexOf(piece)};
    return all[what];
  }

  private List<Linen> alive(int kind) {
    List<Linen> alive = new ArrayList<>();
    for (Linen l : linens) {
      if (l.kind == kind && !l.state.equals("RAG") && !l.state.equals("LOST")) {
        alive.add(l);
      }
    }
    return alive;
  }

  private static int spreadOf(List<Integer> uses) {
    TreeSet<Integer> sorted = new TreeSet<>(uses);
    return sorted.isEmpty() ? 0 : sorted.last() - sorted.first();
  }

  private int busyOn(int kind, int day) {
    int busy = 0;
    for (Told t : tolds) {
      if (t.kind == kind && !t.dropped && t.isBusy(day)) {
        busy++;
      }
    }
    return busy;
  }

  private int need(int kind) {
    int need = 0;
    for (int day = 0; day < 200; day++) {
      need = Math.max(need, busyOn(kind, day));
    }
    return need;
  }

  private int worst(int kind) {
    int need = need(kind);
    int day = 0;
    while (need > 0 && busyOn(kind, day) < need) {
      day++;
    }
    return need == 0 ? -1 : day;
  }

  /** By number; -1 for those that have none. */
  private int[] seats(int kind) {
    int[] seats = new int[tolds.size()];
    java.util.Arrays.fill(seats, -1);
    for (int from = 0; from <= 99; from++) {
      for (int n = 0; n < tolds.size(); n++) {
        Told t = tolds.get(n);
        if (t.kind == kind && !t.dropped && t.from == from) {
          TreeSet<Integer> held = new TreeSet<>();
          for (int m = 0; m < tolds.size(); m++) {
            if (seats[m] >= 0 && tolds.get(m).from + tolds.get(m).days + 1 >= from) {
              held.add(seats[m]);
            }
          }
          int seat = 0;
          while (held.contains(seat)) {
            seat++;
          }
          seats[n] = seat;
        }
      }
    }
    return seats;
  }

  private int seatsUsed(int kind) {
    TreeSet<Integer> numbers = new TreeSet<>();
    for (int seat : seats(kind)) {
      numbers.add(seat);
    }
    numbers.remove(-1);
    return numbers.size();
  }

  int ofKind(int kind, int what) {
    index(kind, 3);
    argument(what, 0, 9);
    List<Integer> pile = piles.get(kind);
    List<Integer> uses = new ArrayList<>();
    for (Linen l : alive(kind)) {
      uses.add(l.uses);
    }
    int need = need(kind);
    int[] all = {pile.size(), pile.isEmpty() ? -1 : pile.get(0),
        pile.isEmpty() ? -1 : pile.get(pile.size() - 1), under[kind] ? 1 : 0, spreadOf(uses), need,
        worst(kind), seatsUsed(kind), uses.size(), need > uses.size() ? need - uses.size() : 0};
    return all[what];
  }

  int at(int house, int kind) {
    index(house, 3);
    index(kind, 3);
    int many = 0;
    for (Linen l : linens) {
      many += l.kind == kind && l.house == house ? 1 : 0;
    }
    return many;
  }

  int ofBooking(int booking, int what) {
    index(booking, tolds.size());
    argument(what, 0, 5);
    Told t = tolds.get(booking);
    int[] all = {t.kind, t.from, t.days, t.dropped ? 1 : 0, seats(t.kind)[booking],
        t.from + t.days + 1};
    return all[what];
  }

  int store(int what) {
    argument(what, 0, 10);
    int[] all = new int[11];
    all[0] = linens.size();
    for (Linen l : linens) {
      all[1 + STATES.indexOf(l.state)]++;
      all[7] += l.mends;
      all[9] += l.uses;
    }
    all[6] = washCalls;
    all[8] = tolds.size();
    all[10] = refused;
    return all[what];
  }

  String shelf(int kind) {
    index(kind, 3);
    List<String> numbers = new ArrayList<>();
    for (int n : piles.get(kind)) {
      numbers.add("" + n);
    }
    return numbers.isEmpty() ? "-" : String.join(" ", numbers);
  }

  int spread(int kind, boolean isUnder, int rounds) {
    index(kind, 3);
    argument(rounds, 0, 99);
    List<Integer> pile = new ArrayList<>();
    for (int n : piles.get(kind)) {
      pile.add(linens.get(n).uses);
    }
    for (int round = 0; round < rounds && !pile.isEmpty(); round++) {
      int uses = pile.remove(0) + 1;
      pile.add(isUnder ? pile.size() : 0, uses);
    }
    return spreadOf(pile);
  }

  double curve(int uses) {
    argument(uses, 0, 200);
    double part = 1.0;
    for (int t = 0; t <= uses; t++) {
      int d = 0;
      int n = 0;
      for (Linen l : linens) {
        d += l.state.equals("RAG") && l.uses == t ? 1 : 0;
        n += l.uses >= t ? 1 : 0;
      }
      if (d >= 1) {
        part *= 1.0 - d / (double) n;
      }
    }
    return part;
  }

  int washes(int piece, int programme) {
    index(piece, linens.size());
    index(programme, 4);
    Linen l = linens.get(piece);
    state(l.state.equals("FOUL"));
    int wear = l.wear;
    int stain = l.stain;
    int washes = 0;
    do {
      washes++;
      wear += 1 + programme;
      stain -= 1 + programme;
      if (wear >= l.life) {
        return -1;
      }
    } while (stain > 0);
    return washes;
  }

  int fits(int kind, int days, int pieces) {
    index(kind, 3);
    argument(days, 1, 20);
    argument(pieces, 1, 12);
    for (int from = 0; from <= 99; from++) {
      Told more = new Told();
      more.kind = kind;
      more.from = from;
      more.days = days;
      tolds.add(more);
      int need = need(kind);
      tolds.remove(tolds.size() - 1);
      if (need <= pieces) {
        return from;
      }
    }
    return -1;
  }

  boolean isSound() {
    boolean isSound = true;
    for (int kind = 0; kind < 3; kind++) {
      isSound &= seatsUsed(kind) == need(kind);
    }
    List<Integer> places = new ArrayList<>(hamper);
    for (List<Integer> pile : piles) {
      places.addAll(pile);
    }
    for (int n = 0; n < linens.size(); n++) {
      Linen l = linens.get(n);
      isSound &= java.util.Collections.frequency(places, n)
          == (l.state.equals("CLEAN") || l.state.equals("FOUL") ? 1 : 0);
      isSound &= !l.state.equals("CLEAN") || piles.get(l.kind).contains(n);
      isSound &= !l.state.equals("FOUL") || hamper.contains(n);
      isSound &= l.stain == 0 || !l.state.equals("CLEAN") && !l.state.equals("USED");
      isSound &= l.wear < l.life || l.state.equals("RAG");
      isSound &= l.washes <= l.wear + 8 * l.mends;
    }
    return isSound;
  }

  long digest() {
    List<Integer> v = new ArrayList<>();
    for (int what = 0; what <= 10; what++) {
      v.add(store(what));
    }
    for (int piece = 0; piece < linens.size(); piece++) {
      for (int what = 0; what <= 10; what++) {
        v.add(ofPiece(piece, what));
      }
    }
    for (int kind = 0; kind < 3; kind++) {
      for (int what = 0; what <= 9; what++) {
        v.add(ofKind(kind, what));
      }
      for (int house = 0; house < 3; house++) {
        v.add(at(house, kind));
      }
      v.addAll(List.of(spread(kind, true, 7), spread(kind, false, 7), fits(kind, 5, 2)));
    }
    for (int booking = 0; booking < tolds.size(); booking++) {
      for (int what = 0; what <= 5; what++) {
        v.add(ofBooking(booking, what));
      }
    }
    v.addAll(List.of((int) (4096 * curve(3)), (int) (4096 * curve(9)), isSound() ? 1 : 0));
    long d = 8009;
    for (int each : v) {
      d = d * 31 + each;
    }
    return d;
  }
}
