import java.math.BigInteger;

/** Promises 18 to 23: rounds, counts, foresight, advice, what comes back and the checksum. */
final class RoundsTest {
  private static final Check CHECK = new Check("RoundsTest");
  private static final int MIN = Integer.MIN_VALUE;
  private static final int MAX = Integer.MAX_VALUE;

  public static void main(String[] args) {
    pass();
    passManyRounds();
    passTellsItsOwnRounds();
    roundsFarOn();
    count();
    countWhenFull();
    foresee();
    foreseeOfOneRound();
    foreseeChangesNothing();
    adviseNone();
    adviseMachine();
    adviseLeavesOutTheRow();
    adviseWhatWouldLeaveTheRow();
    adviseNoneTwice();
    adviseOfFewRounds();
    adviseWhatWorks();
    adviseOfManyRounds();
    back();
    backOfBothKinds();
    digest();
    digestWrapsAround();
    digestWhenFull();
    CHECK.finish();
  }

  /** A table whose three cups pay the same, so that each play pays it. */
  private static int tablePaying(PennyArcade x, int pay, int box) {
    int table = x.addTable(3, 2, box);
    for (int column = 0; column < 3; column++) {
      x.setCup(table, column, pay);
    }
    return table;
  }

  private static void playOften(PennyArcade x, int player, int machine, int times) {
    for (int i = 0; i < times; i++) {
      x.play(player, machine, 0, 0);
    }
  }

  private static void pass() {
    PennyArcade x = new PennyArcade();
    tablePaying(x, 2, 100);
    x.come(10, 9);
    x.come(10, 9);
    for (int wrong : new int[] {0, 201, -1, MIN, MAX}) {
      CHECK.noArgument(x, "pass(" + wrong + ")", () -> x.pass(wrong));
    }
    CHECK.is("they go there", x.pass(1), 0);
    CHECK.is("two play for two rounds", x.pass(2), 8);
    CHECK.is("the round", x.count(0), 3);
    CHECK.is("until it jams", x.pass(200), 32);
    CHECK.is("the round then", x.count(0), 203);
    CHECK.is("the box", x.machine(0, 4), 80);
  }

  private static void passManyRounds() {
    PennyArcade slow = mixed();
    PennyArcade fast = mixed();
    int paid = 0;
    for (int i = 0; i < 40; i++) {
      paid += slow.pass(1);
    }
    CHECK.is("40 rounds at once", fast.pass(40), paid);
    CHECK.is("and the state behind them", fast.digest(), slow.digest());
  }

  private static void count() {
    PennyArcade x = new PennyArcade();
    x.addPusher(9, 7);
    tablePaying(x, 0, 30);
    x.addPusher(3, 2);
    x.come(40, 9);
    x.come(5, 9);
    x.come(0, 9);
    playOften(x, 0, 0, 20);
    x.go(2, 1);
    x.call(0);
    x.call(2);
    x.pass(1);
    int[] due = {1, 3, 1, 3, 2, 25, 39, 20, 2, 2};
    for (int what = 0; what < due.length; what++) {
      CHECK.is("count(" + what + ")", x.count(what), due[what]);
    }
    for (int wrong : new int[] {-1, 10, MIN, MAX}) {
      CHECK.noIndex(x, "count(" + wrong + ")", () -> x.count(wrong));
    }
  }

  private static PennyArcade mixed() {
    PennyArcade x = new PennyArcade();
    tablePaying(x, 2, 60);
    x.addPusher(1, 40);
    x.addTable(5, 7, 20);
    x.setCup(2, 2, 9);
    x.bend(2, 3, 2, -1);
    x.come(30, 2);
    x.come(9, 5);
    x.come(70, 1);
    x.addPusher(4, 0);
    x.come(90, 9);
    x.go(2, 1);
    x.go(3, 3);
    playOften(x, 0, 1, 20);
    x.call(1);
    x.call(0);
    return x;
  }

  private static void foresee() {
    PennyArcade x = mixed();
    for (int rounds : new int[] {1, 2, 17, 60, 200}) {
      PennyArcade then = mixed();
      int paid = then.pass(rounds);
      CHECK.is("paid in " + rounds, x.foresee(rounds, 0), paid);
      CHECK.is("in boxes behind " + rounds, x.foresee(rounds, 1), then.count(6));
      CHECK.is("jammed behind " + rounds, x.foresee(rounds, 2), then.count(2));
    }
    PennyArcade y = new PennyArcade();
    tablePaying(y, 2, 100);
    y.addPusher(9, 3);
    y.come(30, 9);
    CHECK.is("paid in 6", y.foresee(6, 0), 10);
    CHECK.is("in boxes behind 6", y.foresee(6, 1), 98);
    CHECK.is("jammed behind 6", y.foresee(6, 2), 0);
    CHECK.is("jammed behind 21", y.foresee(21, 2), 1);
    for (int wrong : new int[] {0, 201, -1, MIN, MAX}) {
      CHECK.noArgument(x, "foresee(" + wrong + ", 0)", () -> x.foresee(wrong, 0));
      CHECK.noArgument(x, "foresee(" + wrong + ", 3)", () -> x.foresee(wrong, 3));
    }
    for (int wrong : new int[] {-1, 3, MIN, MAX}) {
      CHECK.noIndex(x, "foresee(1, " + wrong + ")", () -> x.foresee(1, wrong));
    }
  }

  private static void foreseeChangesNothing() {
    PennyArcade asked = mixed();
    PennyArcade quiet = mixed();
    for (int i = 0; i < 30; i++) {
      long before = asked.digest();
      asked.foresee(1 + i * 6, i % 3);
      asked.advise(1 + i * 2);
      CHECK.is("the state behind foresight", asked.digest(), before);
      CHECK.is("the rounds behind foresight", asked.pass(1), quiet.pass(1));
      CHECK.is("the state behind a round", asked.digest(), quiet.digest());
    }
  }

  private static void adviseNone() {
    PennyArcade x = new PennyArcade();
    CHECK.is("no machine", x.advise(1), -1);
    x.addTable(3, 2, 50);
    x.addPusher(3, 5);
    CHECK.is("no player", x.advise(60), -1);
    x.come(40, 9);
    CHECK.is("all work for so long", x.advise(10), -1);
    for (int wrong : new int[] {0, 61, -1, MIN, MAX}) {
      CHECK.noArgument(x, "advise(" + wrong + ")", () -> x.advise(wrong));
    }
    PennyArcade y = new PennyArcade();
    tablePaying(y, 2, 100);
    y.come(40, 9);
    playOften(y, 0, 0, 20);
    CHECK.is("a repair would only lose tokens", y.advise(30), -1);
  }

  private static void adviseMachine() {
    PennyArcade x = new PennyArcade();
    x.come(100, 9);
    x.addTable(3, 2, 0);
    x.addTable(3, 2, 9);
    x.addTable(3, 2, 9);
    for (int machine = 0; machine < 3; machine++) {
      playOften(x, 0, machine, 20);
    }
    CHECK.is("all are jammed; too few rounds for a repair", x.advise(3), -1);
    CHECK.is("one round to go there, none to play", x.advise(4), -1);
    CHECK.is("one play, at each of the three: the smallest number", x.advise(5), 0);
    x.setSkill(2);
    CHECK.is("a skilled one is sooner ready", x.advise(2), -1);
    CHECK.is("so one play", x.advise(3), 0);
    x.setCup(0, 0, 1);
    x.setCup(0, 1, 1);
    x.setCup(0, 2, 1);
    CHECK.is("the first one pays it back", x.advise(3), 1);
  }

  private static void adviseLeavesOutTheRow() {
    PennyArcade x = new PennyArcade();
    x.come(100, 9);
    x.setSkill(5);
    for (int machine = 0; machine < 3; machine++) {
      x.addTable(3, 2, 0);
      playOften(x, 0, machine, 20);
    }
    CHECK.is("nothing is in the row", x.advise(60), 0);
    x.call(0);
    CHECK.is("behind the first one, the second", x.advise(60), 1);
    CHECK.is("the first one will do for so long", x.advise(10), -1);
    x.call(1);
    x.call(2);
    CHECK.is("all are in the row", x.advise(60), -1);
  }

  private static void back() {
    PennyArcade x = new PennyArcade();
    tablePaying(x, 1, 5);
    tablePaying(x, 0, 5);
    x.come(50, 9);
    CHECK.isDouble("none let in", x.back(), 0.0);
    x.play(0, 1, 0, 0);
    CHECK.isDouble("none paid", x.back(), 0.0);
    x.play(0, 0, 0, 0);
    CHECK.isDouble("one of two", x.back(), 0.5);
    x.play(0, 0, 0, 0);
    CHECK.isDouble("two of three", x.back(), 2.0 / 3.0);
    x.setCup(0, 0, 7);
    x.play(0, 0, 0, 0);
    CHECK.isDouble("all of the box", x.back(), (2.0 + 6.0) / 4.0);
    playOften(x, 0, 1, 3);
    CHECK.isDouble("eight of seven", x.back(), 8.0 / 7.0);
  }

  private static void digest() {
    PennyArcade x = new PennyArcade();
    x.addTable(3, 2, 11);
    x.addPusher(1, 13);
    for (int column = 0; column < 3; column++) {
      x.setCup(0, column, column + 4);
      x.bend(0, 0, column, column - 1);
      x.bend(0, 1, column, 1 - column);
    }
    x.come(20, 3);
    x.come(30, 4);
    for (int i = 0; i < 4; i++) {
      x.play(1, 1, 0, 0);
    }
    x.go(1, 1);
    x.call(1);
    x.call(0);
    int[] due = {
      0, 2, 0, 2, 1, 46, 24, 4, 2, 0,
      0, 3, 2, 0, 11, 0, 0, 0, 0, 0, 0, 4, 5, 6, -1, 0, 1, 1, 0, -1,
      1, 0, 0, 1, 13, 4, 0, 1, 4, 0, 4, 1, 1, 1, 1, 0,
      20, 3, -1, 0, 0, 0,
      26, 4, 1, 0, 4, 0,
      1, 0,
    };
    long d = 631;
    for (int number : due) {
      d = d * 31 + number;
    }
    CHECK.is("digest()", x.digest(), d);
    CHECK.is("digest() changes nothing", x.digest(), d);
  }

  private static void passTellsItsOwnRounds() {
    PennyArcade x = new PennyArcade();
    tablePaying(x, 3, 100);
    x.addPusher(1, 0);
    x.come(100, 9);
    x.come(100, 9);
    playOften(x, 0, 0, 2);
    playOften(x, 1, 1, 6);
    x.go(0, 0);
    x.go(1, 1);
    CHECK.is("what was paid before is not told; both kinds are", x.pass(1), 4);
    CHECK.is("nor what the last rounds paid", x.pass(2), 8);
    x.come(0, 9);
    x.go(0, -1);
    x.go(1, -1);
    CHECK.is("a round in which they go there pays none", x.pass(1), 0);
  }

  private static void roundsFarOn() {
    PennyArcade x = new PennyArcade();
    x.addTable(9, 2, 1000);
    for (int column = 0; column < 9; column++) {
      x.setCup(0, column, 11 + column);
      x.bend(0, 0, column, -1);
      x.bend(0, 1, column, 1);
    }
    // With the 28 calls before and the six behind these are 512.
    for (int i = 0; i < 478; i++) {
      CHECK.is("200 rounds without players", x.pass(200), 0);
    }
    x.come(9, 9);
    x.go(0, 0);
    CHECK.is("the round 95600, the column 2", x.pass(1), 13);
    CHECK.is("the round 95601, the column 3", x.pass(1), 14);
    CHECK.is("the round", x.count(0), 95602);
    CHECK.is("the call 512", x.player(0, 0), 34);
  }

  /** Eight machines, all jammed and all in the row, and ten players, all of them at a machine. */
  private static PennyArcade full() {
    PennyArcade x = new PennyArcade();
    for (int player = 0; player < 10; player++) {
      x.come(50 * player + 50, 9);
    }
    for (int machine = 0; machine < 4; machine++) {
      x.addTable(9, 12, 9999);
      x.addPusher(9, 9999);
    }
    for (int machine = 7; machine >= 0; machine--) {
      playOften(x, machine, machine, 20);
      x.call(machine);
    }
    for (int player = 0; player < 10; player++) {
      x.go(player, player % 8);
    }
    return x;
  }

  private static void countWhenFull() {
    PennyArcade x = full();
    int[] due = {0, 8, 8, 10, 10, 2590, 80072, 80, 8, 0};
    for (int what = 0; what < due.length; what++) {
      CHECK.is("count(" + what + ") when all is full", x.count(what), due[what]);
    }
    CHECK.is("jammed behind one round", x.foresee(1, 2), 8);
    CHECK.is("jammed behind one repair", x.foresee(3, 2), 7);
    x.pass(1);
    CHECK.is("all have left", x.count(4), 0);
    CHECK.is("the mechanic has begun", x.count(9), 2);
    x.pass(2);
    CHECK.is("one works", x.count(2), 7);
    CHECK.is("seven are in the row", x.count(8), 7);
    CHECK.is("the next is not begun with", x.count(9), 0);
  }

  private static void foreseeOfOneRound() {
    PennyArcade x = new PennyArcade();
    tablePaying(x, 3, 10);
    x.come(40, 9);
    playOften(x, 0, 0, 2);
    x.go(0, 0);
    CHECK.is("what was paid before is not foreseen", x.foresee(1, 0), 3);
    CHECK.is("the box behind one round", x.foresee(1, 1), 4);
    CHECK.is("the box behind 200 rounds", x.foresee(200, 1), 0);
    CHECK.is("paid in 200 rounds", x.foresee(200, 0), 24);
    CHECK.is("jammed behind 17 rounds", x.foresee(17, 2), 0);
    CHECK.is("jammed behind 18 rounds", x.foresee(18, 2), 1);
    x.addPusher(9, 7);
    x.play(0, 1, 0, 0);
    CHECK.is("a ledge is no box", x.foresee(1, 1), 11);
  }

  private static void adviseWhatWouldLeaveTheRow() {
    PennyArcade x = new PennyArcade();
    x.come(500, 9);
    x.addTable(3, 2, 0);
    playOften(x, 0, 0, 20);
    x.call(0);
    CHECK.is("what is in the row is not called twice", x.advise(60), -1);
    x.pass(2);
    CHECK.is("nor in its last round", x.advise(60), -1);
    x.pass(1);
    CHECK.is("when it has left the row a second repair would gain nothing", x.advise(60), -1);
    playOften(x, 0, 0, 5);
    CHECK.is("when it has worn since it may be called again", x.advise(60), 0);
  }

  private static void adviseOfFewRounds() {
    PennyArcade x = new PennyArcade();
    x.addTable(3, 2, 0);
    x.setSkill(2);
    for (int player = 0; player < 2; player++) {
      x.come(50, 9);
      x.go(player, 0);
    }
    playOften(x, 0, 0, 18);
    CHECK.is("both jam it in the one round", x.advise(1), -1);
    CHECK.is("both play on in the second", x.advise(2), 0);
    x.setSkill(1);
    CHECK.is("a less skilled one is too late", x.advise(2), -1);
  }

  private static void adviseWhatWorks() {
    PennyArcade x = new PennyArcade();
    x.addTable(3, 2, 0);
    x.come(100, 9);
    playOften(x, 0, 0, 12);
    x.go(0, 0);
    CHECK.is("it does not jam so soon", x.advise(8), -1);
    CHECK.is("it would jam, though it works now", x.advise(12), 0);
  }

  private static void adviseOfManyRounds() {
    PennyArcade x = new PennyArcade();
    x.come(100, 9);
    for (int machine = 0; machine < 8; machine++) {
      x.addTable(3, 2, 1);
      for (int column = 0; column < 3; column++) {
        x.setCup(machine, column, machine < 7 ? 1 : 0);
      }
      playOften(x, 0, machine, machine < 7 ? 20 : 0);
    }
    playOften(x, 0, 7, 20);
    CHECK.is("the last of eight", x.advise(60), 7);
    x.call(7);
    CHECK.is("the others give back what they take", x.advise(60), -1);
  }

  private static void backOfBothKinds() {
    PennyArcade x = new PennyArcade();
    x.addPusher(1, 0);
    tablePaying(x, 2, 50);
    x.come(50, 9);
    playOften(x, 0, 0, 5);
    CHECK.isDouble("five lie on the ledge", x.back(), 0.0);
    playOften(x, 0, 0, 1);
    CHECK.isDouble("one of six", x.back(), 1.0 / 6.0);
    playOften(x, 0, 1, 1);
    CHECK.isDouble("three of seven", x.back(), 3.0 / 7.0);
    x.setSkill(5);
    x.call(0);
    x.pass(1);
    CHECK.isDouble("a repair forgets none of them", x.back(), 3.0 / 7.0);
  }

  /** The checksum of the document without a bound to its numbers. */
  private static BigInteger unbounded(int... numbers) {
    BigInteger d = BigInteger.valueOf(631);
    for (int number : numbers) {
      d = d.multiply(BigInteger.valueOf(31)).add(BigInteger.valueOf(number));
    }
    return d;
  }

  /** The number that 64 bits with a sign hold of a wider one. */
  private static BigInteger wrapped(BigInteger wide) {
    BigInteger range = BigInteger.ONE.shiftLeft(64);
    BigInteger rest = wide.mod(range);
    return rest.testBit(63) ? rest.subtract(range) : rest;
  }

  /** What an arcade without machines has to sum up, whose players have the purses 1, 2, 3 .. */
  private static int[] numbersOfPlayers(int players) {
    int[] numbers = new int[10 + 6 * players];
    numbers[3] = players;
    numbers[5] = players * (players + 1) / 2;
    for (int player = 0; player < players; player++) {
      numbers[10 + 6 * player] = player + 1;
      numbers[10 + 6 * player + 1] = 9;
      numbers[10 + 6 * player + 2] = -1;
    }
    return numbers;
  }

  private static void digestWrapsAround() {
    PennyArcade x = new PennyArcade();
    CHECK.is("what fits in 64 bits is told as it is", x.digest(), 517185449084885431L);
    int below = 0;
    int above = 0;
    for (int round = 1; round <= 20; round++) {
      x.pass(1);
      BigInteger fits = unbounded(round, 0, 0, 0, 0, 0, 0, 0, 0, 0);
      CHECK.is("the digest of round " + round, x.digest(), fits.longValueExact());
    }
    PennyArcade y = new PennyArcade();
    for (int players = 1; players <= 10; players++) {
      y.come(players, 9);
      BigInteger due = wrapped(unbounded(numbersOfPlayers(players)));
      below += due.signum() < 0 ? 1 : 0;
      above += due.signum() > 0 ? 1 : 0;
      CHECK.is("it wraps around with players " + players, y.digest(), due.longValueExact());
    }
    CHECK.is("below 0 and above", below > 0 && above > 0 ? 1 : 0, 1);
  }

  private static void digestWhenFull() {
    PennyArcade x = full();
    long d = 631;
    int[] counts = {0, 8, 8, 10, 10, 2590, 80072, 80, 8, 0};
    for (int number : counts) {
      d = d * 31 + number;
    }
    for (int machine = 0; machine < 8; machine++) {
      int there = machine < 2 ? 2 : 1;
      int[] table = {0, 9, 12, 0, 10019, 20, 1, there, 20, 0, 0};
      int[] pusher = {1, 0, 0, 9, 9999, 20, 1, there, 20, 0, 20};
      for (int number : machine % 2 == 0 ? table : pusher) {
        d = d * 31 + number;
      }
      int[] ledge = {5, 5, 5, 5, 0};
      for (int part = 0; part < (machine % 2 == 0 ? 9 + 12 * 9 : 5); part++) {
        d = d * 31 + (machine % 2 == 0 ? 0 : ledge[part]);
      }
    }
    for (int player = 0; player < 10; player++) {
      int played = player < 8 ? 20 : 0;
      int[] facts = {50 * player + 50 - played, 9, player % 8, 0, played, 0};
      for (int number : facts) {
        d = d * 31 + number;
      }
    }
    for (int machine = 7; machine >= 0; machine--) {
      d = d * 31 + machine;
    }
    CHECK.is("digest() when all is full", x.digest(), d);
  }

  private static void adviseNoneTwice() {
    PennyArcade x = new PennyArcade();
    x.come(500, 9);
    for (int machine = 0; machine < 2; machine++) {
      x.addTable(3, 2, 0);
      playOften(x, 0, machine, 20);
    }
    x.call(0);
    x.call(1);
    // Were the machine 0 repaired once more behind the machine 1, more tokens would come into its box.
    CHECK.is("what is in the row is left out", x.advise(60), -1);
    x.pass(1);
    CHECK.is("what is repaired just now is left out, too", x.advise(60), -1);
  }
}
