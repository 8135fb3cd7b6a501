import java.util.ArrayList;
import java.util.Arrays;

/**
 * The document once more, written as plainly as can be and apart from the class: each call answers
 * a long, or the name of the exception. Foresight works on a copy.
 */
final class Oracle {
  static final String INDEX = "java.lang.IndexOutOfBoundsException";
  static final String ARGUMENT = "java.lang.IllegalArgumentException";
  static final String STATE = "java.lang.IllegalStateException";

  // A machine: kind, columns, rows, strength, box, wear, jammed, let in, paid.
  private final ArrayList<int[]> facts = new ArrayList<>();
  private final ArrayList<int[]> cups = new ArrayList<>();
  private final ArrayList<int[][]> pins = new ArrayList<>();
  private final ArrayList<int[]> ledges = new ArrayList<>();
  // A player: purse, temper, machine, lost, played, won.
  private final ArrayList<int[]> players = new ArrayList<>();
  private final ArrayList<Integer> row = new ArrayList<>();
  private int skill;
  private int left;
  private int round;

  private Oracle copy() {
    Oracle o = new Oracle();
    facts.forEach(f -> o.facts.add(f.clone()));
    o.cups.addAll(cups);
    o.pins.addAll(pins);
    ledges.forEach(l -> o.ledges.add(l.clone()));
    players.forEach(p -> o.players.add(p.clone()));
    o.row.addAll(row);
    o.skill = skill;
    o.left = left;
    o.round = round;
    return o;
  }

  private static boolean in(int x, int least, int most) {
    return least <= x && x <= most;
  }

  private boolean isMachine(int m) {
    return in(m, 0, facts.size() - 1);
  }

  private boolean isTable(int m) {
    return facts.get(m)[0] == 0;
  }

  private boolean isColumn(int m, int c) {
    return in(c, 0, facts.get(m)[1] - 1);
  }

  private Object add(int kind, int columns, int rows, int strength, int box) {
    if (facts.size() == 8) return STATE;
    facts.add(new int[] {kind, columns, rows, strength, box, 0, 0, 0, 0});
    cups.add(new int[columns]);
    pins.add(new int[rows][columns]);
    ledges.add(new int[5]);
    return (long) facts.size() - 1;
  }

  Object addTable(int columns, int rows, int box) {
    if (!in(columns, 3, 9) || !in(rows, 2, 12) || !in(box, 0, 9999)) return ARGUMENT;
    return add(0, columns, rows, 0, box);
  }

  Object addPusher(int strength, int box) {
    if (!in(strength, 1, 9) || !in(box, 0, 9999)) return ARGUMENT;
    return add(1, 0, 0, strength, box);
  }

  Object bend(int m, int r, int c, int side) {
    if (!isMachine(m)) return INDEX;
    if (!isTable(m) || !in(r, 0, facts.get(m)[2] - 1) || !isColumn(m, c) || !in(side, -1, 1)) return ARGUMENT;
    long before = pins.get(m)[r][c];
    pins.get(m)[r][c] = side;
    return before;
  }

  Object setCup(int m, int c, int pay) {
    if (!isMachine(m)) return INDEX;
    if (!isTable(m) || !isColumn(m, c) || !in(pay, 0, 20)) return ARGUMENT;
    long before = cups.get(m)[c];
    cups.get(m)[c] = pay;
    return before;
  }

  Object machine(int m, int what) {
    if (!isMachine(m) || !in(what, 0, 10)) return INDEX;
    return machineFact(m, what);
  }

  private long machineFact(int m, int what) {
    if (what <= 6) return facts.get(m)[what];
    if (what == 7) return players.stream().filter(p -> p[2] == m).count();
    if (what == 10) return Arrays.stream(ledges.get(m)).sum();
    return facts.get(m)[what - 1];
  }

  private int end(int m, int column, int tilt) {
    int c = column;
    for (int r = 0; r < facts.get(m)[2]; r++) {
      int pin = pins.get(m)[r][c];
      int to = pin != 0 ? c + pin : (r + c) % 2 == 0 ? c + tilt : c;
      c = Math.max(0, Math.min(facts.get(m)[1] - 1, to));
    }
    return c;
  }

  private int best(int m, int c) {
    int[] pay = new int[3];
    for (int t = -1; t <= 1; t++) pay[t + 1] = cups.get(m)[end(m, c, t)];
    int most = Math.max(pay[0], Math.max(pay[1], pay[2]));
    return pay[0] == most ? -1 : pay[1] == most ? 0 : 1;
  }

  Object ends(int m, int c, int tilt) {
    if (!isMachine(m)) return INDEX;
    if (!isTable(m) || !isColumn(m, c) || !in(tilt, -1, 1)) return ARGUMENT;
    return (long) end(m, c, tilt);
  }

  Object bestTilt(int m, int c) {
    if (!isMachine(m)) return INDEX;
    if (!isTable(m) || !isColumn(m, c)) return ARGUMENT;
    return (long) best(m, c);
  }

  Object dead(int m) {
    if (!isMachine(m)) return INDEX;
    if (!isTable(m)) return ARGUMENT;
    boolean[] come = new boolean[facts.get(m)[1]];
    for (int c = 0; c < come.length; c++) {
      for (int t = -1; t <= 1; t++) come[end(m, c, t)] = true;
    }
    long dead = 0;
    for (boolean b : come) dead += b ? 0 : 1;
    return dead;
  }

  Object ledge(int m, int place) {
    if (!isMachine(m)) return INDEX;
    if (isTable(m) || !in(place, 0, 4)) return ARGUMENT;
    return (long) ledges.get(m)[place];
  }

  Object come(int purse, int temper) {
    if (!in(purse, 0, 500) || !in(temper, 1, 9)) return ARGUMENT;
    if (players.size() == 10) return STATE;
    players.add(new int[] {purse, temper, -1, 0, 0, 0});
    return (long) players.size() - 1;
  }

  Object go(int p, int m) {
    if (!in(p, 0, players.size() - 1) || m != -1 && !isMachine(m)) return INDEX;
    long before = players.get(p)[2];
    players.get(p)[2] = m;
    players.get(p)[3] = 0;
    return before;
  }

  Object play(int p, int m, int c, int tilt) {
    if (!in(p, 0, players.size() - 1) || !isMachine(m)) return INDEX;
    if (isTable(m) && (!isColumn(m, c) || !in(tilt, -1, 1))) return ARGUMENT;
    if (facts.get(m)[6] == 1 || players.get(p)[0] == 0) return STATE;
    return (long) token(p, m, c, tilt);
  }

  private int token(int p, int m, int c, int tilt) {
    int[] f = facts.get(m);
    int pay = 0;
    if (isTable(m)) {
      f[4]++;
      pay = Math.min(cups.get(m)[end(m, c, tilt)], f[4]);
      f[4] -= pay;
    } else {
      int[] l = ledges.get(m);
      l[0]++;
      for (int i = 0; i < 5; i++) {
        if (l[i] > f[3]) {
          int half = l[i] / 2;
          l[i] -= half;
          if (i < 4) l[i + 1] += half;
          else pay = half;
        }
      }
    }
    f[5] = Math.min(100, f[5] + 1);
    if (f[5] >= 20 && f[5] % 10 == 0) f[6] = 1;
    f[7]++;
    f[8] += pay;
    int[] who = players.get(p);
    who[0] += pay - 1;
    who[4]++;
    who[5] += pay;
    return pay;
  }

  Object player(int p, int what) {
    if (!in(p, 0, players.size() - 1) || !in(what, 0, 5)) return INDEX;
    return (long) players.get(p)[what];
  }

  Object setSkill(int s) {
    if (!in(s, 0, 5)) return ARGUMENT;
    long before = skill;
    skill = s;
    return before;
  }

  Object call(int m) {
    if (!isMachine(m)) return INDEX;
    if (row.contains(m)) return STATE;
    row.add(m);
    return (long) row.size();
  }

  Object repair(int index) {
    if (!in(index, 0, row.size() - 1)) return INDEX;
    return (long) row.get(index);
  }

  Object pass(int rounds) {
    if (!in(rounds, 1, 200)) return ARGUMENT;
    return go(rounds);
  }

  private long go(int rounds) {
    long paid = 0;
    for (int i = 0; i < rounds; i++) {
      for (int p = 0; p < players.size(); p++) paid += turn(p);
      mechanic();
      round++;
    }
    return paid;
  }

  private int turn(int p) {
    int[] who = players.get(p);
    int m = who[2];
    if (m >= 0 && facts.get(m)[6] == 0 && who[0] > 0) {
      int c = isTable(m) ? round % facts.get(m)[1] : 0;
      int pay = token(p, m, c, isTable(m) ? best(m, c) : 0);
      who[3] = pay == 0 ? who[3] + 1 : 0;
      if (who[3] == who[1]) {
        who[2] = -1;
        who[3] = 0;
      }
      return pay;
    }
    if (m >= 0) {
      who[2] = -1;
      who[3] = 0;
    } else if (who[0] > 0) {
      long most = -1;
      for (int i = 0; i < facts.size(); i++) {
        long tokens = machineFact(i, 4) + machineFact(i, 10);
        if (facts.get(i)[6] == 0 && tokens > most) {
          most = tokens;
          who[2] = i;
        }
      }
    }
    return 0;
  }

  private void mechanic() {
    if (row.isEmpty()) return;
    int[] first = facts.get(row.get(0));
    if (left == 0) left = Math.max(1, first[5] / 10 + 1 - skill);
    if (--left == 0) {
      first[5] = 0;
      first[6] = 0;
      row.remove(0);
    }
  }

  Object count(int what) {
    if (!in(what, 0, 9)) return INDEX;
    return counted(what);
  }

  private long counted(int what) {
    switch (what) {
      case 0: return round;
      case 1: return facts.size();
      case 2: return facts.stream().filter(f -> f[6] == 1).count();
      case 3: return players.size();
      case 4: return players.stream().filter(p -> p[2] >= 0).count();
      case 5: return players.stream().mapToInt(p -> p[0]).sum();
      case 6: return facts.stream().mapToInt(f -> f[4]).sum();
      case 7: return ledges.stream().mapToInt(l -> Arrays.stream(l).sum()).sum();
      case 8: return row.size();
      default: return left;
    }
  }

  Object foresee(int rounds, int what) {
    if (!in(rounds, 1, 200)) return ARGUMENT;
    if (!in(what, 0, 2)) return INDEX;
    Oracle then = copy();
    long paid = then.go(rounds);
    return what == 0 ? paid : then.counted(what == 1 ? 6 : 2);
  }

  Object advise(int rounds) {
    if (!in(rounds, 1, 60)) return ARGUMENT;
    Oracle without = copy();
    without.go(rounds);
    long most = without.counted(6);
    long advised = -1;
    for (int m = 0; m < facts.size(); m++) {
      if (row.contains(m)) continue;
      Oracle with = copy();
      with.row.add(m);
      with.go(rounds);
      if (with.counted(6) > most) {
        most = with.counted(6);
        advised = m;
      }
    }
    return advised;
  }

  Object back() {
    long in = facts.stream().mapToInt(f -> f[7]).sum();
    long paid = facts.stream().mapToInt(f -> f[8]).sum();
    return Double.doubleToLongBits(in == 0 ? 0.0 : (double) paid / (double) in);
  }

  Object digest() {
    ArrayList<Long> numbers = new ArrayList<>();
    for (int what = 0; what < 10; what++) numbers.add(counted(what));
    for (int m = 0; m < facts.size(); m++) {
      for (int what = 0; what < 11; what++) numbers.add(machineFact(m, what));
      for (int pay : cups.get(m)) numbers.add((long) pay);
      for (int[] line : pins.get(m)) {
        for (int side : line) numbers.add((long) side);
      }
      if (!isTable(m)) {
        for (int coins : ledges.get(m)) numbers.add((long) coins);
      }
    }
    for (int[] p : players) {
      for (int fact : p) numbers.add((long) fact);
    }
    for (int m : row) numbers.add((long) m);
    long d = 631;
    for (long x : numbers) d = d * 31 + x;
    return d;
  }
}
