/** Promises 1 to 10: a new object, and the machines. */
final class MachinesTest {
  private static final Check CHECK = new Check("MachinesTest");
  private static final int MIN = Integer.MIN_VALUE;
  private static final int MAX = Integer.MAX_VALUE;

  public static void main(String[] args) {
    newObject();
    addTable();
    addPusher();
    bend();
    setCup();
    machine();
    ends();
    bestTilt();
    dead();
    ledge();
    CHECK.finish();
  }

  private static void facts(PennyArcade x, int machine, int... due) {
    for (int what = 0; what < due.length; what++) {
      CHECK.is("machine(" + machine + ", " + what + ")", x.machine(machine, what), due[what]);
    }
  }

  private static void newObject() {
    PennyArcade x = new PennyArcade();
    long digest = 631;
    for (int what = 0; what < 10; what++) {
      CHECK.is("count(" + what + ") of a new object", x.count(what), 0);
      digest *= 31;
    }
    CHECK.isDouble("back() of a new object", x.back(), 0.0);
    CHECK.is("digest() of a new object", x.digest(), digest);
    CHECK.noIndex(x, "machine(0, 0) of a new object", () -> x.machine(0, 0));
    CHECK.noIndex(x, "player(0, 0) of a new object", () -> x.player(0, 0));
    CHECK.noIndex(x, "repair(0) of a new object", () -> x.repair(0));
    CHECK.is("setSkill(0) of a new object", x.setSkill(0), 0);
  }

  private static void addTable() {
    PennyArcade x = new PennyArcade();
    for (int wrong : new int[] {2, 10, 0, -3, MIN, MAX}) {
      CHECK.noArgument(x, "addTable of columns " + wrong, () -> x.addTable(wrong, 2, 0));
    }
    for (int wrong : new int[] {1, 13, 0, -2, MIN, MAX}) {
      CHECK.noArgument(x, "addTable of rows " + wrong, () -> x.addTable(3, wrong, 0));
    }
    for (int wrong : new int[] {-1, 10000, MIN, MAX}) {
      CHECK.noArgument(x, "addTable of box " + wrong, () -> x.addTable(3, 2, wrong));
    }
    CHECK.is("the least table", x.addTable(3, 2, 0), 0);
    CHECK.is("the greatest table", x.addTable(9, 12, 9999), 1);
    facts(x, 0, 0, 3, 2, 0, 0, 0, 0, 0, 0, 0, 0);
    facts(x, 1, 0, 9, 12, 0, 9999, 0, 0, 0, 0, 0, 0);
    for (int column = 0; column < 9; column++) {
      CHECK.is("the first pay", x.setCup(1, column, 1), 0);
      for (int row = 0; row < 12; row++) {
        CHECK.is("the first side", x.bend(1, row, column, 1), 0);
      }
    }
    for (int number = 2; number < 8; number++) {
      CHECK.is("the number of a table", x.addTable(4, 3, number), number);
    }
    CHECK.noState(x, "a ninth table", () -> x.addTable(3, 2, 0));
    CHECK.noState(x, "a ninth machine", () -> x.addPusher(1, 0));
    CHECK.noArgument(x, "a ninth table, and a wrong one", () -> x.addTable(2, 2, 0));
    CHECK.is("machines", x.count(1), 8);
  }

  private static void addPusher() {
    PennyArcade x = new PennyArcade();
    for (int wrong : new int[] {0, 10, -1, MIN, MAX}) {
      CHECK.noArgument(x, "addPusher of strength " + wrong, () -> x.addPusher(wrong, 0));
    }
    for (int wrong : new int[] {-1, 10000, MIN, MAX}) {
      CHECK.noArgument(x, "addPusher of box " + wrong, () -> x.addPusher(1, wrong));
    }
    CHECK.is("the weakest pusher", x.addPusher(1, 9999), 0);
    CHECK.is("the strongest pusher", x.addPusher(9, 0), 1);
    facts(x, 0, 1, 0, 0, 1, 9999, 0, 0, 0, 0, 0, 0);
    facts(x, 1, 1, 0, 0, 9, 0, 0, 0, 0, 0, 0, 0);
    for (int number = 2; number < 8; number++) {
      CHECK.is("the number of a pusher", x.addPusher(5, 7), number);
    }
    CHECK.noState(x, "a ninth pusher", () -> x.addPusher(1, 0));
    CHECK.noState(x, "a ninth machine", () -> x.addTable(3, 2, 0));
    CHECK.noArgument(x, "a ninth pusher, and a wrong one", () -> x.addPusher(1, -1));
  }

  private static void bend() {
    PennyArcade x = new PennyArcade();
    x.addTable(3, 4, 0);
    x.addPusher(1, 0);
    CHECK.is("bend to the left", x.bend(0, 0, 1, -1), 0);
    CHECK.is("bend to the right", x.bend(0, 0, 1, 1), -1);
    CHECK.is("bend back", x.bend(0, 0, 1, 0), 1);
    CHECK.is("the side behind that", x.bend(0, 0, 1, 0), 0);
    CHECK.is("the last pin", x.bend(0, 3, 2, -1), 0);
    CHECK.is("the last pin again", x.bend(0, 3, 2, 0), -1);
    for (int row = 0; row < 4; row++) {
      for (int column = 0; column < 3; column++) {
        x.bend(0, row, column, (row * 3 + column) % 3 - 1);
      }
    }
    for (int row = 0; row < 4; row++) {
      for (int column = 0; column < 3; column++) {
        CHECK.is("each pin has its own side", x.bend(0, row, column, 0), (row * 3 + column) % 3 - 1);
      }
    }
    for (int wrong : new int[] {-1, 2, 8, MIN, MAX}) {
      CHECK.noIndex(x, "bend of machine " + wrong, () -> x.bend(wrong, -1, -1, 5));
    }
    for (int wrong : new int[] {-1, 4, 12, MIN, MAX}) {
      CHECK.noArgument(x, "bend in row " + wrong, () -> x.bend(0, wrong, 0, 0));
    }
    for (int wrong : new int[] {-1, 3, 9, MIN, MAX}) {
      CHECK.noArgument(x, "bend in column " + wrong, () -> x.bend(0, 0, wrong, 0));
    }
    for (int wrong : new int[] {-2, 2, MIN, MAX}) {
      CHECK.noArgument(x, "bend to " + wrong, () -> x.bend(0, 0, 0, wrong));
    }
    CHECK.noArgument(x, "bend of a pusher", () -> x.bend(1, 0, 0, 0));
  }

  private static void setCup() {
    PennyArcade x = new PennyArcade();
    x.addTable(4, 2, 0);
    x.addPusher(1, 0);
    for (int column = 0; column < 4; column++) {
      CHECK.is("a cup's first pay", x.setCup(0, column, 17 + column), 0);
    }
    for (int column = 0; column < 4; column++) {
      CHECK.is("a cup's pay before", x.setCup(0, column, 0), 17 + column);
    }
    for (int wrong : new int[] {-1, 2, MIN, MAX}) {
      CHECK.noIndex(x, "setCup of machine " + wrong, () -> x.setCup(wrong, -1, -1));
    }
    for (int wrong : new int[] {-1, 4, 9, MIN, MAX}) {
      CHECK.noArgument(x, "setCup in column " + wrong, () -> x.setCup(0, wrong, 1));
    }
    for (int wrong : new int[] {-1, 21, MIN, MAX}) {
      CHECK.noArgument(x, "setCup of pay " + wrong, () -> x.setCup(0, 0, wrong));
    }
    CHECK.noArgument(x, "setCup of a pusher", () -> x.setCup(1, 0, 1));
  }

  private static void machine() {
    PennyArcade x = new PennyArcade();
    x.addTable(3, 2, 1);
    x.addPusher(1, 5);
    x.setCup(0, 0, 3);
    x.come(50, 9);
    x.come(50, 9);
    x.go(0, 0);
    x.go(1, 0);
    x.play(0, 0, 0, 0);
    facts(x, 0, 0, 3, 2, 0, 0, 1, 0, 2, 1, 2, 0);
    x.play(0, 0, 1, 0);
    facts(x, 0, 0, 3, 2, 0, 1, 2, 0, 2, 2, 2, 0);
    x.play(0, 1, 0, 0);
    facts(x, 1, 1, 0, 0, 1, 5, 1, 0, 0, 1, 0, 1);
    for (int i = 0; i < 18; i++) {
      CHECK.is("the table works", x.machine(0, 6), 0);
      x.play(1, 0, 1, 0);
    }
    facts(x, 0, 0, 3, 2, 0, 19, 20, 1, 2, 20, 2, 0);
    for (int wrong : new int[] {-1, 2, MIN, MAX}) {
      CHECK.noIndex(x, "machine(" + wrong + ", 0)", () -> x.machine(wrong, 0));
    }
    for (int wrong : new int[] {-1, 11, MIN, MAX}) {
      CHECK.noIndex(x, "machine(0, " + wrong + ")", () -> x.machine(0, wrong));
    }
  }

  private static void ends() {
    PennyArcade x = new PennyArcade();
    x.addTable(3, 2, 0);
    x.addPusher(1, 0);
    x.addTable(9, 12, 0);
    int[][] due = {{0, 0, 1}, {0, 1, 2}, {1, 1, 2}};
    // Column 1 to the left: down at the odd place of row 0, left at row 1; column 2 likewise from row 0.
    due[1][0] = 0;
    due[2][0] = 0;
    due[0][2] = 2;
    for (int column = 0; column < 3; column++) {
      CHECK.is("ends with no tilt", x.ends(0, column, 0), column);
      CHECK.is("ends to the left", x.ends(0, column, -1), due[column][0]);
      CHECK.is("ends to the right", x.ends(0, column, 1), due[column][2]);
    }
    x.bend(0, 0, 0, -1);
    CHECK.is("bent beyond the first column", x.ends(0, 0, 1), 0);
    x.bend(0, 0, 0, 1);
    x.bend(0, 1, 1, 1);
    CHECK.is("bent twice to the right, against the tilt", x.ends(0, 0, -1), 2);
    CHECK.is("bent twice to the right, no tilt", x.ends(0, 0, 0), 2);
    x.bend(0, 0, 2, 1);
    x.bend(0, 1, 2, 1);
    CHECK.is("bent beyond the last column", x.ends(0, 2, -1), 2);
    CHECK.is("the way of 12 rows to the right", x.ends(2, 0, 1), 8);
    CHECK.is("the way of 12 rows to the left", x.ends(2, 8, -1), 0);
    CHECK.is("an odd place, then all ways to the left", x.ends(2, 7, -1), 0);
    for (int wrong : new int[] {-1, 3, MIN, MAX}) {
      CHECK.noIndex(x, "ends of machine " + wrong, () -> x.ends(wrong, -1, 2));
      CHECK.noArgument(x, "ends of column " + wrong, () -> x.ends(0, wrong, 0));
    }
    for (int wrong : new int[] {-2, 2, MIN, MAX}) {
      CHECK.noArgument(x, "ends of tilt " + wrong, () -> x.ends(0, 0, wrong));
    }
    CHECK.noArgument(x, "ends of a pusher", () -> x.ends(1, 0, 0));
  }

  private static void bestTilt() {
    PennyArcade x = new PennyArcade();
    x.addTable(3, 2, 0);
    x.addPusher(1, 0);
    CHECK.is("all pays are the same", x.bestTilt(0, 1), -1);
    x.setCup(0, 1, 1);
    CHECK.is("the middle pays", x.bestTilt(0, 1), 0);
    x.setCup(0, 2, 1);
    CHECK.is("the middle and the right pay the same", x.bestTilt(0, 1), 0);
    x.setCup(0, 2, 2);
    CHECK.is("the right pays the most, though the box is empty", x.bestTilt(0, 1), 1);
    x.setCup(0, 0, 2);
    CHECK.is("the left and the right pay the same", x.bestTilt(0, 1), -1);
    CHECK.is("the column 0 to the left", x.bestTilt(0, 0), -1);
    x.setCup(0, 0, 0);
    CHECK.is("the column 0 to the right", x.bestTilt(0, 0), 1);
    for (int wrong : new int[] {-1, 2, MIN, MAX}) {
      CHECK.noIndex(x, "bestTilt of machine " + wrong, () -> x.bestTilt(wrong, -1));
    }
    for (int wrong : new int[] {-1, 3, 9, MIN, MAX}) {
      CHECK.noArgument(x, "bestTilt of column " + wrong, () -> x.bestTilt(0, wrong));
    }
    CHECK.noArgument(x, "bestTilt of a pusher", () -> x.bestTilt(1, 0));
  }

  private static void dead() {
    PennyArcade x = new PennyArcade();
    x.addTable(3, 2, 0);
    x.addPusher(1, 0);
    CHECK.is("all straight", x.dead(0), 0);
    for (int column = 0; column < 3; column++) {
      x.bend(0, 1, column, 1);
    }
    CHECK.is("the last row to the right", x.dead(0), 1);
    for (int column = 0; column < 3; column++) {
      x.bend(0, 0, column, 1);
    }
    CHECK.is("all to the right", x.dead(0), 2);
    for (int column = 0; column < 3; column++) {
      x.bend(0, 0, column, 0);
      x.bend(0, 1, column, column - 1);
    }
    x.bend(0, 1, 1, -1);
    CHECK.is("the middle sends on to the left", x.dead(0), 1);
    x.addTable(3, 2, 0);
    x.bend(2, 0, 0, 1);
    x.bend(2, 0, 2, -1);
    CHECK.is("all come to the middle, and the tilt spreads them", x.dead(2), 0);
    x.bend(2, 1, 1, 1);
    CHECK.is("all come to the middle, which is bent", x.dead(2), 2);
    for (int wrong : new int[] {-1, 3, MIN, MAX}) {
      CHECK.noIndex(x, "dead(" + wrong + ")", () -> x.dead(wrong));
    }
    CHECK.noArgument(x, "dead of a pusher", () -> x.dead(1));
  }

  private static void ledge() {
    PennyArcade x = new PennyArcade();
    x.addPusher(2, 0);
    x.addTable(3, 2, 0);
    x.come(500, 9);
    int[][] due = {{1, 0, 0, 0, 0}, {2, 0, 0, 0, 0}, {2, 1, 0, 0, 0}, {2, 2, 0, 0, 0}, {2, 2, 1, 0, 0}};
    for (int[] row : due) {
      CHECK.is("nothing falls", x.play(0, 0, 0, 0), 0);
      for (int place = 0; place < 5; place++) {
        CHECK.is("ledge(0, " + place + ")", x.ledge(0, place), row[place]);
      }
    }
    int plays = 0;
    int fallen = 0;
    while (fallen == 0 && plays < 14) {
      fallen = x.play(0, 0, 0, 0);
      plays++;
    }
    CHECK.is("plays until one falls", plays, 6);
    CHECK.is("what falls", fallen, 1);
    CHECK.is("the ledge is full", x.machine(0, 10), 10);
    for (int wrong : new int[] {-1, 2, MIN, MAX}) {
      CHECK.noIndex(x, "ledge of machine " + wrong, () -> x.ledge(wrong, -1));
    }
    for (int wrong : new int[] {-1, 5, MIN, MAX}) {
      CHECK.noArgument(x, "ledge of place " + wrong, () -> x.ledge(0, wrong));
    }
    CHECK.noArgument(x, "ledge of a table", () -> x.ledge(1, 0));
  }
}
