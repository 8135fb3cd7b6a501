import java.util.Random;
import java.util.function.Supplier;

/** Runs of calls from fixed seeds, ordinary and wrong ones, against the Oracle; the state is compared by digest(). */
final class RandomRunsTest {
  private static final int RUNS = 250;
  private static final int CALLS = 512;
  private static final int[] FAR = {Integer.MIN_VALUE, Integer.MAX_VALUE, -1000, 1000, -2, -1, 10000};

  private static int wrong = 0;
  private static long asked = 0;

  public static void main(String[] args) {
    for (int run = 0; run < RUNS && wrong < 10; run++) {
      new RandomRunsTest(run).run();
    }
    System.out.println("RandomRunsTest: " + asked + " answers asked, " + wrong + " not as due");
    if (wrong != 0) {
      System.exit(1);
    }
  }

  private final PennyArcade arcade = new PennyArcade();
  private final Oracle oracle = new Oracle();
  private final Random random;
  private final int run;
  private final int strayOneIn;
  private String call;

  private RandomRunsTest(int run) {
    this.run = run;
    random = new Random(631L * run);
    strayOneIn = run % 3 == 0 ? 6 : 60;
  }

  private void run() {
    for (int i = 0; i < CALLS && wrong < 10; i++) {
      step(i < 40 ? random.nextInt(6) : random.nextInt(40));
      compare("digest() behind " + call, () -> arcade.digest(), oracle.digest());
    }
  }

  private int pick(int least, int most) {
    if (random.nextInt(strayOneIn) == 0) {
      return random.nextBoolean() ? FAR[random.nextInt(FAR.length)] : random.nextBoolean() ? least - 1 : most + 1;
    }
    return least + random.nextInt(Math.max(1, most - least + 1));
  }

  private int anyMachine() {
    return pick(0, arcade.count(1) - 1);
  }

  private int anyPlayer() {
    return pick(0, arcade.count(3) - 1);
  }

  private int anyBox() {
    return random.nextInt(3) == 0 ? pick(0, 9999) : pick(0, 40);
  }

  private void told(String name, int... arguments) {
    StringBuilder text = new StringBuilder(name).append('(');
    for (int i = 0; i < arguments.length; i++) {
      text.append(i == 0 ? "" : ", ").append(arguments[i]);
    }
    call = text.append(')').toString();
  }

  private void step(int kind) {
    int a = anyMachine();
    int b;
    int c;
    int d;
    switch (kind) {
      case 0:
        b = pick(3, 9); c = pick(2, 12); d = anyBox();
        told("addTable", b, c, d);
        compare(call, () -> (long) arcade.addTable(b, c, d), oracle.addTable(b, c, d));
        break;
      case 1:
        b = pick(1, 9); c = anyBox();
        told("addPusher", b, c);
        compare(call, () -> (long) arcade.addPusher(b, c), oracle.addPusher(b, c));
        break;
      case 2: case 6:
        b = pick(0, 8); c = random.nextInt(3) == 0 ? 0 : pick(0, 20);
        told("setCup", a, b, c);
        compare(call, () -> (long) arcade.setCup(a, b, c), oracle.setCup(a, b, c));
        break;
      case 3: case 7:
        b = pick(0, 11); c = pick(0, 8); d = pick(-1, 1);
        told("bend", a, b, c, d);
        compare(call, () -> (long) arcade.bend(a, b, c, d), oracle.bend(a, b, c, d));
        break;
      case 4:
        b = random.nextBoolean() ? pick(0, 500) : pick(0, 30); c = pick(1, 9);
        told("come", b, c);
        compare(call, () -> (long) arcade.come(b, c), oracle.come(b, c));
        break;
      case 5: case 8: case 9: case 10: case 11: case 12:
        b = anyPlayer(); c = pick(0, 8); d = pick(-1, 1);
        told("play", b, a, c, d);
        compare(call, () -> (long) arcade.play(b, a, c, d), oracle.play(b, a, c, d));
        break;
      case 13: case 14: case 15:
        told("call", a);
        compare(call, () -> (long) arcade.call(a), oracle.call(a));
        break;
      case 16: case 17:
        b = anyPlayer(); c = pick(-1, arcade.count(1) - 1);
        told("go", b, c);
        compare(call, () -> (long) arcade.go(b, c), oracle.go(b, c));
        break;
      case 18: case 19: case 20: case 21:
        b = random.nextInt(20) == 0 ? pick(1, 200) : pick(1, 8);
        told("pass", b);
        compare(call, () -> (long) arcade.pass(b), oracle.pass(b));
        break;
      case 22: case 23: case 24:
        b = random.nextInt(4) == 0 ? pick(1, 200) : pick(1, 30); c = pick(0, 2);
        told("foresee", b, c);
        compare(call, () -> (long) arcade.foresee(b, c), oracle.foresee(b, c));
        break;
      case 25: case 26: case 27:
        b = pick(1, 60);
        told("advise", b);
        compare(call, () -> (long) arcade.advise(b), oracle.advise(b));
        break;
      default:
        ask(kind);
    }
  }

  private void ask(int kind) {
    int a = anyMachine();
    int b;
    int c;
    switch (kind) {
      case 28: case 29:
        b = pick(0, 10);
        told("machine", a, b);
        compare(call, () -> (long) arcade.machine(a, b), oracle.machine(a, b));
        break;
      case 30: case 31:
        b = pick(0, 8); c = pick(-1, 1);
        told("ends", a, b, c);
        compare(call, () -> (long) arcade.ends(a, b, c), oracle.ends(a, b, c));
        break;
      case 32: case 33:
        b = pick(0, 8);
        told("bestTilt", a, b);
        compare(call, () -> (long) arcade.bestTilt(a, b), oracle.bestTilt(a, b));
        break;
      case 34:
        told("dead", a);
        compare(call, () -> (long) arcade.dead(a), oracle.dead(a));
        break;
      case 35:
        b = pick(0, 4);
        told("ledge", a, b);
        compare(call, () -> (long) arcade.ledge(a, b), oracle.ledge(a, b));
        break;
      case 36:
        b = anyPlayer(); c = pick(0, 5);
        told("player", b, c);
        compare(call, () -> (long) arcade.player(b, c), oracle.player(b, c));
        break;
      case 37:
        b = pick(0, 5);
        told("setSkill", b);
        compare(call, () -> (long) arcade.setSkill(b), oracle.setSkill(b));
        break;
      case 38:
        b = pick(0, arcade.count(8) - 1); c = pick(0, 9);
        told("repair", b);
        compare(call, () -> (long) arcade.repair(b), oracle.repair(b));
        told("count", c);
        compare(call, () -> (long) arcade.count(c), oracle.count(c));
        break;
      default:
        told("back");
        compare(call, () -> Double.doubleToLongBits(arcade.back()), oracle.back());
    }
  }

  private void compare(String what, Supplier<Long> got, Object due) {
    Object answer;
    try {
      answer = got.get();
    } catch (RuntimeException e) {
      answer = Check.nameOf(e);
    }
    asked++;
    if (!answer.equals(due)) {
      wrong++;
      System.out.println("RandomRunsTest, run " + run + ": " + what + " answered " + answer + ", due is " + due);
    }
  }
}
