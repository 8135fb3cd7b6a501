/** Promises 1 to 10: a new object, and the machines. */
final class MachinesTest {
  private static final Check CHECK = new Check("MachinesTest");
  private static final int MIN = Integer.MIN_VALUE;
  private static final int MAX = Integer.MAX_VALUE;

  public static void main(String[] args) {
    newObject();
    newObjectDoes();
    objectsApart();
    addTable();
    addPusher();
    bend();
    setCup();
    machine();
    machineBehindRepair();
    boxBeyondItsFirstRange();
    ends();
    endsByTheSumOfRowAndColumn();
    bestTilt();
    dead();
    deadAtBothEnds();
    deadOfEachWidth();
    ledge();
    ledgeAtItsStrength();
    ledgeFallsInNumbers();
    lastOfEightMachines();
    noMachineIsNamedFirst();
    CHECK.finish();
  }

  private static void facts(PennyArcade x, int machine, int... due) {
    for (int what = 0; what < due.length; what++) {
      CHECK.is("machine(" + machine + ", " + what + ")", x.machine(machine, what), due[what]);
    }
  }

  private static void newObject() {
    PennyArcade x = new PennyArcade();
    long digest = 631;
    for (int what = 0; what < 10; what++) {
      CHECK.is("count(" + what + ") of a new object", x.count(what), 0);
      digest *= 31;
    }
    CHECK.isDouble("back() of a new object", x.back(), 0.0);
    CHECK.is("digest() of a new object", x.digest(), digest);
    CHECK.noIndex(x, "machine(0, 0) of a new object", () -> x.machine(0, 0));
    CHECK.noIndex(x, "player(0, 0) of a new object", () -> x.player(0, 0));
    CHECK.noIndex(x, "repair(0) of a new object", () -> x.repair(0));
    CHECK.is("setSkill(0) of a new object", x.setSkill(0), 0);
  }

  private static void newObjectDoes() {
    PennyArcade x = new PennyArcade();
    CHECK.noIndex(x, "bend of a new object", () -> x.bend(0, 0, 0, 0));
    CHECK.noIndex(x, "setCup of a new object", () -> x.setCup(0, 0, 0));
    CHECK.noIndex(x, "ends of a new object", () -> x.ends(0, 0, 0));
    CHECK.noIndex(x, "bestTilt of a new object", () -> x.bestTilt(0, 0));
    CHECK.noIndex(x, "dead of a new object", () -> x.dead(0));
    CHECK.noIndex(x, "ledge of a new object", () -> x.ledge(0, 0));
    CHECK.noIndex(x, "call of a new object", () -> x.call(0));
    CHECK.noIndex(x, "go of a new object", () -> x.go(0, -1));
    CHECK.noIndex(x, "play of a new object", () -> x.play(0, 0, 0, 0));
    for (int what = 0; what < 3; what++) {
      CHECK.is("foresee(200, " + what + ") of a new object", x.foresee(200, what), 0);
    }
    CHECK.is("advise(60) of a new object", x.advise(60), -1);
    CHECK.is("pass(1) of a new object", x.pass(1), 0);
    CHECK.is("the round behind it", x.count(0), 1);
    x.come(5, 5);
    CHECK.noIndex(x, "play where no machine is", () -> x.play(0, 0, 0, 0));
    CHECK.noIndex(x, "go where no machine is", () -> x.go(0, 0));
    CHECK.is("go to none where no machine is", x.go(0, -1), -1);
  }

  private static void objectsApart() {
    PennyArcade one = new PennyArcade();
    PennyArcade other = new PennyArcade();
    long empty = other.digest();
    one.addTable(3, 2, 5);
    one.come(5, 5);
    one.setSkill(4);
    one.call(0);
    one.pass(3);
    CHECK.is("another object stays empty", other.digest(), empty);
    CHECK.is("and has its own mechanic", other.setSkill(1), 0);
  }

  private static void addTable() {
    PennyArcade x = new PennyArcade();
    for (int wrong : new int[] {2, 10, 0, -3, MIN, MAX}) {
      CHECK.noArgument(x, "addTable of columns " + wrong, () -> x.addTable(wrong, 2, 0));
    }
    for (int wrong : new int[] {1, 13, 0, -2, MIN, MAX}) {
      CHECK.noArgument(x, "addTable of rows " + wrong, () -> x.addTable(3, wrong, 0));
    }
    for (int wrong : new int[] {-1, 10000, MIN, MAX}) {
      CHECK.noArgument(x, "addTable of box " + wrong, () -> x.addTable(3, 2, wrong));
    }
    CHECK.is("the least table", x.addTable(3, 2, 0), 0);
    CHECK.is("the greatest table", x.addTable(9, 12, 9999), 1);
    facts(x, 0, 0, 3, 2, 0, 0, 0, 0, 0, 0, 0, 0);
    facts(x, 1, 0, 9, 12, 0, 9999, 0, 0, 0, 0, 0, 0);
    for (int column = 0; column < 9; column++) {
      CHECK.is("the first pay", x.setCup(1, column, 1), 0);
      for (int row = 0; row < 12; row++) {
        CHECK.is("the first side", x.bend(1, row, column, 1), 0);
      }
    }
    for (int number = 2; number < 8; number++) {
      CHECK.is("the number of a table", x.addTable(4, 3, number), number);
    }
    CHECK.noState(x, "a ninth table", () -> x.addTable(3, 2, 0));
    CHECK.noState(x, "a ninth machine", () -> x.addPusher(1, 0));
    CHECK.noArgument(x, "a ninth table, of columns 2", () -> x.addTable(2, 2, 0));
    CHECK.noArgument(x, "a ninth table, of columns 10", () -> x.addTable(10, 2, 0));
    CHECK.noArgument(x, "a ninth table, of rows 1", () -> x.addTable(3, 1, 0));
    CHECK.noArgument(x, "a ninth table, of rows 13", () -> x.addTable(3, 13, 0));
    CHECK.noArgument(x, "a ninth table, of box -1", () -> x.addTable(3, 2, -1));
    CHECK.noArgument(x, "a ninth table, of box 10000", () -> x.addTable(3, 2, 10000));
    CHECK.is("machines", x.count(1), 8);
  }

  private static void addPusher() {
    PennyArcade x = new PennyArcade();
    for (int wrong : new int[] {0, 10, -1, MIN, MAX}) {
      CHECK.noArgument(x, "addPusher of strength " + wrong, () -> x.addPusher(wrong, 0));
    }
    for (int wrong : new int[] {-1, 10000, MIN, MAX}) {
      CHECK.noArgument(x, "addPusher of box " + wrong, () -> x.addPusher(1, wrong));
    }
    CHECK.is("the weakest pusher", x.addPusher(1, 9999), 0);
    CHECK.is("the strongest pusher", x.addPusher(9, 0), 1);
    facts(x, 0, 1, 0, 0, 1, 9999, 0, 0, 0, 0, 0, 0);
    facts(x, 1, 1, 0, 0, 9, 0, 0, 0, 0, 0, 0, 0);
    for (int number = 2; number < 8; number++) {
      CHECK.is("the number of a pusher", x.addPusher(5, 7), number);
    }
    CHECK.noState(x, "a ninth pusher", () -> x.addPusher(1, 0));
    CHECK.noState(x, "a ninth machine", () -> x.addTable(3, 2, 0));
    CHECK.noArgument(x, "a ninth pusher, of box -1", () -> x.addPusher(1, -1));
    CHECK.noArgument(x, "a ninth pusher, of box 10000", () -> x.addPusher(1, 10000));
    CHECK.noArgument(x, "a ninth pusher, of strength 0", () -> x.addPusher(0, 0));
    CHECK.noArgument(x, "a ninth pusher, of strength 10", () -> x.addPusher(10, 0));
    CHECK.is("machines", x.count(1), 8);
  }

  private static void bend() {
    PennyArcade x = new PennyArcade();
    x.addTable(3, 4, 0);
    x.addPusher(1, 0);
    CHECK.is("bend to the left", x.bend(0, 0, 1, -1), 0);
    CHECK.is("bend to the right", x.bend(0, 0, 1, 1), -1);
    CHECK.is("bend back", x.bend(0, 0, 1, 0), 1);
    CHECK.is("the side behind that", x.bend(0, 0, 1, 0), 0);
    CHECK.is("the last pin", x.bend(0, 3, 2, -1), 0);
    CHECK.is("the last pin again", x.bend(0, 3, 2, 0), -1);
    for (int row = 0; row < 4; row++) {
      for (int column = 0; column < 3; column++) {
        x.bend(0, row, column, (row * 3 + column) % 3 - 1);
      }
    }
    for (int row = 0; row < 4; row++) {
      for (int column = 0; column < 3; column++) {
        CHECK.is("each pin has its own side", x.bend(0, row, column, 0), (row * 3 + column) % 3 - 1);
      }
    }
    for (int wrong : new int[] {-1, 2, 8, MIN, MAX}) {
      CHECK.noIndex(x, "bend of machine " + wrong, () -> x.bend(wrong, -1, -1, 5));
    }
    for (int wrong : new int[] {-1, 4, 12, MIN, MAX}) {
      CHECK.noArgument(x, "bend in row " + wrong, () -> x.bend(0, wrong, 0, 0));
    }
    for (int wrong : new int[] {-1, 3, 9, MIN, MAX}) {
      CHECK.noArgument(x, "bend in column " + wrong, () -> x.bend(0, 0, wrong, 0));
    }
    for (int wrong : new int[] {-2, 2, MIN, MAX}) {
      CHECK.noArgument(x, "bend to " + wrong, () -> x.bend(0, 0, 0, wrong));
    }
    CHECK.noArgument(x, "bend of a pusher", () -> x.bend(1, 0, 0, 0));
  }

  private static void setCup() {
    PennyArcade x = new PennyArcade();
    x.addTable(4, 2, 0);
    x.addPusher(1, 0);
    for (int column = 0; column < 4; column++) {
      CHECK.is("a cup's first pay", x.setCup(0, column, 17 + column), 0);
    }
    for (int column = 0; column < 4; column++) {
      CHECK.is("a cup's pay before", x.setCup(0, column, 0), 17 + column);
    }
    for (int wrong : new int[] {-1, 2, MIN, MAX}) {
      CHECK.noIndex(x, "setCup of machine " + wrong, () -> x.setCup(wrong, -1, -1));
    }
    for (int wrong : new int[] {-1, 4, 9, MIN, MAX}) {
      CHECK.noArgument(x, "setCup in column " + wrong, () -> x.setCup(0, wrong, 1));
    }
    for (int wrong : new int[] {-1, 21, MIN, MAX}) {
      CHECK.noArgument(x, "setCup of pay " + wrong, () -> x.setCup(0, 0, wrong));
    }
    CHECK.noArgument(x, "setCup of a pusher", () -> x.setCup(1, 0, 1));
  }

  private static void machine() {
    PennyArcade x = new PennyArcade();
    x.addTable(3, 2, 1);
    x.addPusher(1, 5);
    x.setCup(0, 0, 3);
    x.come(50, 9);
    x.come(50, 9);
    x.go(0, 0);
    x.go(1, 0);
    x.play(0, 0, 0, 0);
    facts(x, 0, 0, 3, 2, 0, 0, 1, 0, 2, 1, 2, 0);
    x.play(0, 0, 1, 0);
    facts(x, 0, 0, 3, 2, 0, 1, 2, 0, 2, 2, 2, 0);
    x.play(0, 1, 0, 0);
    facts(x, 1, 1, 0, 0, 1, 5, 1, 0, 0, 1, 0, 1);
    for (int i = 0; i < 18; i++) {
      CHECK.is("the table works", x.machine(0, 6), 0);
      x.play(1, 0, 1, 0);
    }
    facts(x, 0, 0, 3, 2, 0, 19, 20, 1, 2, 20, 2, 0);
    for (int wrong : new int[] {-1, 2, MIN, MAX}) {
      CHECK.noIndex(x, "machine(" + wrong + ", 0)", () -> x.machine(wrong, 0));
    }
    for (int wrong : new int[] {-1, 11, MIN, MAX}) {
      CHECK.noIndex(x, "machine(0, " + wrong + ")", () -> x.machine(0, wrong));
    }
  }

  private static void machineBehindRepair() {
    PennyArcade x = new PennyArcade();
    x.addTable(3, 2, 10);
    x.setCup(0, 0, 1);
    x.come(40, 9);
    x.setSkill(5);
    for (int play = 1; play <= 20; play++) {
      CHECK.is("pay of play " + play, x.play(0, 0, 0, 0), 1);
      CHECK.is("the wear behind play " + play, x.machine(0, 5), play);
      CHECK.is("jammed behind play " + play, x.machine(0, 6), play == 20 ? 1 : 0);
    }
    x.call(0);
    x.pass(1);
    facts(x, 0, 0, 3, 2, 0, 10, 0, 0, 0, 20, 20, 0);
    for (int play = 1; play <= 20; play++) {
      x.play(0, 0, 0, 0);
      CHECK.is("jammed behind the repair and play " + play, x.machine(0, 6), play == 20 ? 1 : 0);
    }
    CHECK.noState(x, "play at what jammed again", () -> x.play(0, 0, 0, 0));
    facts(x, 0, 0, 3, 2, 0, 10, 20, 1, 0, 40, 40, 0);
  }

  private static void boxBeyondItsFirstRange() {
    PennyArcade x = new PennyArcade();
    x.addTable(3, 2, 9999);
    x.come(3, 9);
    x.play(0, 0, 0, 0);
    x.play(0, 0, 0, 0);
    CHECK.is("a box is filled beyond 9999", x.machine(0, 4), 10001);
    CHECK.is("and counted so", x.count(6), 10001);
  }

  private static void ends() {
    PennyArcade x = new PennyArcade();
    x.addTable(3, 2, 0);
    x.addPusher(1, 0);
    x.addTable(9, 12, 0);
    int[][] due = {{0, 0, 1}, {0, 1, 2}, {1, 1, 2}};
    // Column 1 to the left: down at the odd place of row 0, left at row 1; column 2 likewise from row 0.
    due[1][0] = 0;
    due[2][0] = 0;
    due[0][2] = 2;
    for (int column = 0; column < 3; column++) {
      CHECK.is("ends with no tilt", x.ends(0, column, 0), column);
      CHECK.is("ends to the left", x.ends(0, column, -1), due[column][0]);
      CHECK.is("ends to the right", x.ends(0, column, 1), due[column][2]);
    }
    x.bend(0, 0, 0, -1);
    CHECK.is("bent beyond the first column", x.ends(0, 0, 1), 0);
    x.bend(0, 0, 0, 1);
    x.bend(0, 1, 1, 1);
    CHECK.is("bent twice to the right, against the tilt", x.ends(0, 0, -1), 2);
    CHECK.is("bent twice to the right, no tilt", x.ends(0, 0, 0), 2);
    x.bend(0, 0, 2, 1);
    x.bend(0, 1, 2, 1);
    CHECK.is("bent beyond the last column", x.ends(0, 2, -1), 2);
    CHECK.is("the way of 12 rows to the right", x.ends(2, 0, 1), 8);
    CHECK.is("the way of 12 rows to the left", x.ends(2, 8, -1), 0);
    CHECK.is("an odd place, then all ways to the left", x.ends(2, 7, -1), 0);
    for (int wrong : new int[] {-1, 3, MIN, MAX}) {
      CHECK.noIndex(x, "ends of machine " + wrong, () -> x.ends(wrong, -1, 2));
      CHECK.noArgument(x, "ends of column " + wrong, () -> x.ends(0, wrong, 0));
    }
    for (int wrong : new int[] {-2, 2, MIN, MAX}) {
      CHECK.noArgument(x, "ends of tilt " + wrong, () -> x.ends(0, 0, wrong));
    }
    CHECK.noArgument(x, "ends of a pusher", () -> x.ends(1, 0, 0));
  }

  private static void endsByTheSumOfRowAndColumn() {
    PennyArcade x = new PennyArcade();
    x.addTable(9, 3, 0);
    // From an even column each of the rows heeds the tilt; from an odd one the row 0 does not, and then each does.
    int[] right = {3, 3, 5, 5, 7, 7, 8, 8, 8};
    int[] left = {0, 0, 0, 1, 1, 3, 3, 5, 5};
    for (int column = 0; column < 9; column++) {
      CHECK.is("three rows to the right from " + column, x.ends(0, column, 1), right[column]);
      CHECK.is("three rows to the left from " + column, x.ends(0, column, -1), left[column]);
      CHECK.is("three rows with no tilt from " + column, x.ends(0, column, 0), column);
    }
    x.bend(0, 0, 3, 1);
    CHECK.is("a bent pin at an odd sum sends it on", x.ends(0, 3, 0), 4);
    x.bend(0, 0, 4, 1);
    CHECK.is("a bent pin at an even sum heeds no tilt", x.ends(0, 4, -1), 3);
  }

  private static void bestTilt() {
    PennyArcade x = new PennyArcade();
    x.addTable(3, 2, 0);
    x.addPusher(1, 0);
    CHECK.is("all pays are the same", x.bestTilt(0, 1), -1);
    x.setCup(0, 1, 1);
    CHECK.is("the middle pays", x.bestTilt(0, 1), 0);
    x.setCup(0, 2, 1);
    CHECK.is("the middle and the right pay the same", x.bestTilt(0, 1), 0);
    x.setCup(0, 2, 2);
    CHECK.is("the right pays the most, though the box is empty", x.bestTilt(0, 1), 1);
    x.setCup(0, 0, 2);
    CHECK.is("the left and the right pay the same", x.bestTilt(0, 1), -1);
    CHECK.is("the column 0 to the left", x.bestTilt(0, 0), -1);
    x.setCup(0, 0, 0);
    CHECK.is("the column 0 to the right", x.bestTilt(0, 0), 1);
    for (int wrong : new int[] {-1, 2, MIN, MAX}) {
      CHECK.noIndex(x, "bestTilt of machine " + wrong, () -> x.bestTilt(wrong, -1));
    }
    for (int wrong : new int[] {-1, 3, 9, MIN, MAX}) {
      CHECK.noArgument(x, "bestTilt of column " + wrong, () -> x.bestTilt(0, wrong));
    }
    CHECK.noArgument(x, "bestTilt of a pusher", () -> x.bestTilt(1, 0));
  }

  private static void dead() {
    PennyArcade x = new PennyArcade();
    x.addTable(3, 2, 0);
    x.addPusher(1, 0);
    CHECK.is("all straight", x.dead(0), 0);
    for (int column = 0; column < 3; column++) {
      x.bend(0, 1, column, 1);
    }
    CHECK.is("the last row to the right", x.dead(0), 1);
    for (int column = 0; column < 3; column++) {
      x.bend(0, 0, column, 1);
    }
    CHECK.is("all to the right", x.dead(0), 2);
    for (int column = 0; column < 3; column++) {
      x.bend(0, 0, column, 0);
      x.bend(0, 1, column, column - 1);
    }
    x.bend(0, 1, 1, -1);
    CHECK.is("the middle sends on to the left", x.dead(0), 1);
    x.addTable(3, 2, 0);
    x.bend(2, 0, 0, 1);
    x.bend(2, 0, 2, -1);
    CHECK.is("all come to the middle, and the tilt spreads them", x.dead(2), 0);
    x.bend(2, 1, 1, 1);
    CHECK.is("all come to the middle, which is bent", x.dead(2), 2);
    for (int wrong : new int[] {-1, 3, MIN, MAX}) {
      CHECK.noIndex(x, "dead(" + wrong + ")", () -> x.dead(wrong));
    }
    CHECK.noArgument(x, "dead of a pusher", () -> x.dead(1));
  }

  private static void deadAtBothEnds() {
    PennyArcade x = new PennyArcade();
    x.addTable(9, 12, 0);
    CHECK.is("all straight", x.dead(0), 0);
    for (int column = 0; column < 9; column++) {
      for (int row = 0; row < 12; row++) {
        x.bend(0, row, column, -1);
      }
    }
    CHECK.is("all to the left: none but the first cup", x.dead(0), 8);
    for (int column = 0; column < 9; column++) {
      for (int row = 0; row < 12; row++) {
        x.bend(0, row, column, 1);
      }
    }
    CHECK.is("all to the right: none but the last cup", x.dead(0), 8);
  }

  private static void ledge() {
    PennyArcade x = new PennyArcade();
    x.addPusher(2, 0);
    x.addTable(3, 2, 0);
    x.come(500, 9);
    int[][] due = {{1, 0, 0, 0, 0}, {2, 0, 0, 0, 0}, {2, 1, 0, 0, 0}, {2, 2, 0, 0, 0}, {2, 2, 1, 0, 0}};
    for (int[] row : due) {
      CHECK.is("nothing falls", x.play(0, 0, 0, 0), 0);
      for (int place = 0; place < 5; place++) {
        CHECK.is("ledge(0, " + place + ")", x.ledge(0, place), row[place]);
      }
    }
    int plays = 0;
    int fallen = 0;
    while (fallen == 0 && plays < 14) {
      fallen = x.play(0, 0, 0, 0);
      plays++;
    }
    CHECK.is("plays until one falls", plays, 6);
    CHECK.is("what falls", fallen, 1);
    CHECK.is("the ledge is full", x.machine(0, 10), 10);
    for (int wrong : new int[] {-1, 2, MIN, MAX}) {
      CHECK.noIndex(x, "ledge of machine " + wrong, () -> x.ledge(wrong, -1));
    }
    for (int wrong : new int[] {-1, 5, MIN, MAX}) {
      CHECK.noArgument(x, "ledge of place " + wrong, () -> x.ledge(0, wrong));
    }
    CHECK.noArgument(x, "ledge of a table", () -> x.ledge(1, 0));
  }

  private static void deadOfEachWidth() {
    for (int columns = 3; columns <= 9; columns++) {
      for (int side = -1; side <= 1; side += 2) {
        PennyArcade x = new PennyArcade();
        x.addTable(columns, 2, 0);
        for (int column = 0; column < columns; column++) {
          x.bend(0, 0, column, side);
          x.bend(0, 1, column, side);
        }
        CHECK.is("two rows of " + columns + " bent to " + side + " leave two cups dead", x.dead(0), 2);
      }
    }
  }

  private static void ledgeAtItsStrength() {
    for (int strength = 1; strength <= 9; strength++) {
      PennyArcade x = new PennyArcade();
      x.addPusher(strength, 0);
      x.come(20, 9);
      for (int coins = 1; coins <= strength; coins++) {
        x.play(0, 0, 0, 0);
        CHECK.is("as many as the strength " + strength + " stay", x.ledge(0, 0), coins);
        CHECK.is("and none goes on", x.ledge(0, 1), 0);
      }
      x.play(0, 0, 0, 0);
      int half = (strength + 1) / 2;
      CHECK.is("one more than " + strength + ": half goes", x.ledge(0, 1), half);
      CHECK.is("one more than " + strength + ": the rest stays", x.ledge(0, 0), strength + 1 - half);
    }
  }

  private static void ledgeFallsInNumbers() {
    PennyArcade x = new PennyArcade();
    x.addPusher(3, 7);
    x.come(30, 9);
    for (int play = 1; play <= 15; play++) {
      int due = play == 12 || play == 14 ? 2 : 0;
      CHECK.is("what falls at play " + play, x.play(0, 0, 0, 0), due);
    }
    int[] due = {3, 2, 2, 2, 2};
    for (int place = 0; place < 5; place++) {
      CHECK.is("ledge(0, " + place + ")", x.ledge(0, place), due[place]);
    }
    facts(x, 0, 1, 0, 0, 3, 7, 15, 0, 0, 15, 4, 11);
  }

  private static void lastOfEightMachines() {
    PennyArcade x = new PennyArcade();
    for (int i = 0; i < 6; i++) {
      x.addTable(3, 2, i);
    }
    x.addPusher(2, 6);
    x.addTable(4, 3, 7);
    CHECK.is("bend of the last", x.bend(7, 2, 3, 1), 0);
    CHECK.is("setCup of the last", x.setCup(7, 3, 20), 0);
    CHECK.is("machine of the last", x.machine(7, 4), 7);
    CHECK.is("ends of the last", x.ends(7, 3, 0), 3);
    CHECK.is("bestTilt of the last", x.bestTilt(7, 3), 0);
    CHECK.is("dead of the last", x.dead(7), 0);
    CHECK.is("ledge of the last but one", x.ledge(6, 4), 0);
    CHECK.noIndex(x, "bend of machine 8", () -> x.bend(8, 0, 0, 0));
    CHECK.noIndex(x, "setCup of machine 8", () -> x.setCup(8, 0, 0));
    CHECK.noIndex(x, "machine 8", () -> x.machine(8, 0));
    CHECK.noIndex(x, "ends of machine 8", () -> x.ends(8, 0, 0));
    CHECK.noIndex(x, "bestTilt of machine 8", () -> x.bestTilt(8, 0));
    CHECK.noIndex(x, "dead of machine 8", () -> x.dead(8));
    CHECK.noIndex(x, "ledge of machine 8", () -> x.ledge(8, 0));
  }

  private static void noMachineIsNamedFirst() {
    PennyArcade x = new PennyArcade();
    x.addTable(3, 2, 0);
    x.addPusher(1, 0);
    for (int none : new int[] {-1, 2, MIN, MAX}) {
      String told = "machine " + none + " and ";
      for (int wrong : new int[] {-1, 9, 12, MIN, MAX}) {
        CHECK.noIndex(x, "bend of " + told + "row " + wrong, () -> x.bend(none, wrong, 0, 0));
        CHECK.noIndex(x, "bend of " + told + "column " + wrong, () -> x.bend(none, 0, wrong, 0));
        CHECK.noIndex(x, "setCup of " + told + "column " + wrong, () -> x.setCup(none, wrong, 0));
        CHECK.noIndex(x, "ends of " + told + "column " + wrong, () -> x.ends(none, wrong, 0));
        CHECK.noIndex(x, "bestTilt of " + told + "column " + wrong, () -> x.bestTilt(none, wrong));
        CHECK.noIndex(x, "ledge of " + told + "place " + wrong, () -> x.ledge(none, wrong));
      }
      for (int wrong : new int[] {-2, 2, MIN, MAX}) {
        CHECK.noIndex(x, "bend of " + told + "side " + wrong, () -> x.bend(none, 0, 0, wrong));
        CHECK.noIndex(x, "ends of " + told + "tilt " + wrong, () -> x.ends(none, 0, wrong));
      }
      for (int wrong : new int[] {-1, 21, MIN, MAX}) {
        CHECK.noIndex(x, "setCup of " + told + "pay " + wrong, () -> x.setCup(none, 0, wrong));
      }
    }
  }
}
