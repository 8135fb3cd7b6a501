/** Promises 15 to 17: the mechanic, and how one works in rounds. */
final class MechanicTest {
  private static final Check CHECK = new Check("MechanicTest");
  private static final int MIN = Integer.MIN_VALUE;
  private static final int MAX = Integer.MAX_VALUE;

  public static void main(String[] args) {
    setSkill();
    call();
    repair();
    roundsOfARepair();
    wearAndSkillAtTheBeginning();
    oneBehindTheOther();
    playWhileRepaired();
    eachMachineOnceInTheRow();
    eightInTheRow();
    skillOfZeroToFive();
    CHECK.finish();
  }

  /** An arcade of pushers, each played at so many times. */
  private static PennyArcade worn(int... wears) {
    PennyArcade x = new PennyArcade();
    x.come(500, 9);
    for (int machine = 0; machine < wears.length; machine++) {
      x.addPusher(9, 0);
      for (int i = 0; i < wears[machine]; i++) {
        x.play(0, machine, 0, 0);
      }
    }
    return x;
  }

  private static void keepPlayersAway(PennyArcade x) {
    for (int player = 0; player < x.count(3); player++) {
      x.go(player, -1);
    }
  }

  private static void setSkill() {
    PennyArcade x = new PennyArcade();
    CHECK.is("the first skill", x.setSkill(5), 0);
    CHECK.is("the skill before", x.setSkill(3), 5);
    for (int wrong : new int[] {-1, 6, MIN, MAX}) {
      CHECK.noArgument(x, "setSkill(" + wrong + ")", () -> x.setSkill(wrong));
    }
    CHECK.is("the skill stands", x.setSkill(0), 3);
  }

  private static void call() {
    PennyArcade x = worn(0, 0, 0);
    CHECK.is("call(2)", x.call(2), 1);
    CHECK.is("call(0)", x.call(0), 2);
    CHECK.noState(x, "call(2) again", () -> x.call(2));
    CHECK.noState(x, "call(0) again", () -> x.call(0));
    CHECK.is("call(1)", x.call(1), 3);
    for (int wrong : new int[] {-1, 3, MIN, MAX}) {
      CHECK.noIndex(x, "call(" + wrong + ")", () -> x.call(wrong));
    }
    x.pass(1);
    CHECK.is("call(2) behind its repair", x.call(2), 3);
    CHECK.is("the last one", x.repair(2), 2);
  }

  private static void repair() {
    PennyArcade x = worn(0, 0, 0);
    CHECK.noIndex(x, "repair(0) of an empty row", () -> x.repair(0));
    x.call(2);
    x.call(0);
    CHECK.is("repair(0)", x.repair(0), 2);
    CHECK.is("repair(1)", x.repair(1), 0);
    for (int wrong : new int[] {-1, 2, MIN, MAX}) {
      CHECK.noIndex(x, "repair(" + wrong + ")", () -> x.repair(wrong));
    }
    x.pass(1);
    CHECK.is("the first one has left", x.repair(0), 0);
    CHECK.noIndex(x, "repair(1) then", () -> x.repair(1));
  }

  private static void roundsOfARepair() {
    int[][] due = {{20, 0, 3}, {20, 1, 2}, {20, 2, 1}, {20, 5, 1}, {19, 0, 2}, {10, 0, 2}, {9, 0, 1}, {0, 0, 1}, {0, 5, 1}};
    for (int[] row : due) {
      PennyArcade x = worn(row[0]);
      String told = "wear " + row[0] + ", skill " + row[1];
      x.setSkill(row[1]);
      x.call(0);
      CHECK.is("not begun with: " + told, x.count(9), 0);
      int rounds = 0;
      while (x.count(8) > 0 && rounds < 20) {
        keepPlayersAway(x);
        x.pass(1);
        rounds++;
        CHECK.is("rounds left: " + told, x.count(9), row[2] - rounds);
        boolean ready = rounds == row[2];
        CHECK.is("wear: " + told, x.machine(0, 5), ready ? 0 : row[0]);
        CHECK.is("jammed: " + told, x.machine(0, 6), !ready && row[0] == 20 ? 1 : 0);
      }
      CHECK.is("rounds in all: " + told, rounds, row[2]);
    }
  }

  private static void wearAndSkillAtTheBeginning() {
    PennyArcade x = worn(20);
    x.call(0);
    x.pass(1);
    x.setSkill(5);
    CHECK.is("the skill comes too late", x.count(9), 2);
    x.pass(1);
    CHECK.is("one more", x.count(9), 1);
    CHECK.is("it is jammed still", x.machine(0, 6), 1);
    x.pass(1);
    CHECK.is("ready", x.machine(0, 6), 0);

    PennyArcade y = worn(9);
    y.call(0);
    y.play(0, 0, 0, 0);
    keepPlayersAway(y);
    y.pass(1);
    CHECK.is("the wear when it is begun with", y.count(9), 1);
  }

  private static void oneBehindTheOther() {
    PennyArcade x = worn(20, 20, 5);
    x.setSkill(1);
    x.call(1);
    x.call(0);
    x.pass(2);
    CHECK.is("the first is ready", x.machine(1, 6), 0);
    CHECK.is("the second is not begun with", x.count(9), 0);
    CHECK.is("and is jammed", x.machine(0, 6), 1);
    CHECK.is("the row", x.count(8), 1);
    x.call(1);
    x.pass(1);
    CHECK.is("the second is begun with", x.count(9), 1);
    x.pass(1);
    CHECK.is("the second is ready", x.machine(0, 6), 0);
    CHECK.is("the third stands there", x.repair(0), 1);
    CHECK.is("what was not called keeps its wear", x.machine(2, 5) >= 5 ? 1 : 0, 1);
  }

  private static void playWhileRepaired() {
    PennyArcade x = worn(18);
    x.go(0, 0);
    x.call(0);
    x.pass(1);
    CHECK.is("it is played at before the mechanic begins", x.machine(0, 5), 19);
    CHECK.is("19 / 10 and 1, one of them gone", x.count(9), 1);
    x.pass(1);
    CHECK.is("it jams at 20 and is repaired in this round", x.machine(0, 6), 0);
    CHECK.is("its wear is 0", x.machine(0, 5), 0);
    CHECK.is("the player is there still", x.player(0, 2), 0);
    x.pass(1);
    CHECK.is("and plays on", x.machine(0, 5), 1);
  }

  private static void eachMachineOnceInTheRow() {
    PennyArcade x = worn(20, 0);
    x.call(0);
    x.pass(1);
    CHECK.noState(x, "call(0) while it is repaired", () -> x.call(0));
    x.pass(1);
    CHECK.noState(x, "call(0) in the last round but one", () -> x.call(0));
    x.pass(1);
    CHECK.is("it has left the row", x.count(8), 0);
    CHECK.is("call(0) when it has left", x.call(0), 1);
    CHECK.noState(x, "call(0) again", () -> x.call(0));
  }

  private static void eightInTheRow() {
    PennyArcade x = worn(0, 0, 0, 0, 0, 0, 0, 0);
    for (int i = 0; i < 8; i++) {
      CHECK.is("call of machine " + (7 - i), x.call(7 - i), i + 1);
    }
    for (int i = 0; i < 8; i++) {
      CHECK.is("repair(" + i + ")", x.repair(i), 7 - i);
    }
    CHECK.noIndex(x, "repair(8)", () -> x.repair(8));
    CHECK.noIndex(x, "call(8)", () -> x.call(8));
    for (int machine = 0; machine < 8; machine++) {
      int again = machine;
      CHECK.noState(x, "call(" + again + ") of eight", () -> x.call(again));
    }
    for (int left = 8; left > 0; left--) {
      CHECK.is("in the row", x.count(8), left);
      CHECK.is("the first one", x.repair(0), left - 1);
      CHECK.is("none is begun with", x.count(9), 0);
      x.pass(1);
    }
    CHECK.is("the row is empty", x.count(8), 0);
    CHECK.noIndex(x, "repair(0) then", () -> x.repair(0));
    x.pass(1);
    CHECK.is("an empty row gives no work", x.count(9), 0);
  }

  private static void skillOfZeroToFive() {
    int[][] due = {{3, 2, 1, 1, 1, 1}, {2, 1, 1, 1, 1, 1}, {1, 1, 1, 1, 1, 1}};
    int[] wears = {20, 10, 9};
    for (int i = 0; i < wears.length; i++) {
      for (int skill = 0; skill <= 5; skill++) {
        PennyArcade x = worn(wears[i]);
        keepPlayersAway(x);
        x.setSkill(skill);
        x.call(0);
        String told = "wear " + wears[i] + ", skill " + skill;
        x.pass(1);
        CHECK.is("rounds left behind one: " + told, x.count(9), due[i][skill] - 1);
        CHECK.is("in the row behind one: " + told, x.count(8), due[i][skill] > 1 ? 1 : 0);
      }
    }
  }
}
