/** Promises 11 to 14: the players, called one by one and by rounds. */
final class PlayersTest {
  private static final Check CHECK = new Check("PlayersTest");
  private static final int MIN = Integer.MIN_VALUE;
  private static final int MAX = Integer.MAX_VALUE;

  public static void main(String[] args) {
    come();
    go();
    playAtTable();
    payNearAllOfTheBox();
    playAtPusher();
    playRefused();
    noPlayerOrMachineIsNamedFirst();
    playWithTheLastToken();
    lastOfTenPlayers();
    player();
    jamStopsPlay();
    losersLeave();
    temperOfOneToNine();
    winsEndTheRowOfLosses();
    lastTokenWins();
    noMachineWorks();
    atTheJammedOne();
    whoLeavesForgetsLosses();
    playersChoose();
    playersSeeWhatOthersDid();
    tableInRounds();
    CHECK.finish();
  }

  private static void facts(PennyArcade x, int player, int... due) {
    for (int what = 0; what < due.length; what++) {
      CHECK.is("player(" + player + ", " + what + ")", x.player(player, what), due[what]);
    }
  }

  private static void come() {
    PennyArcade x = new PennyArcade();
    for (int wrong : new int[] {-1, 501, MIN, MAX}) {
      CHECK.noArgument(x, "come with purse " + wrong, () -> x.come(wrong, 1));
    }
    for (int wrong : new int[] {0, 10, -1, MIN, MAX}) {
      CHECK.noArgument(x, "come with temper " + wrong, () -> x.come(0, wrong));
    }
    CHECK.is("the poorest", x.come(0, 1), 0);
    CHECK.is("the richest", x.come(500, 9), 1);
    facts(x, 0, 0, 1, -1, 0, 0, 0);
    facts(x, 1, 500, 9, -1, 0, 0, 0);
    for (int number = 2; number < 10; number++) {
      CHECK.is("the number of a player", x.come(number, 5), number);
    }
    CHECK.noState(x, "an eleventh player", () -> x.come(0, 1));
    CHECK.noArgument(x, "an eleventh player, with purse 501", () -> x.come(501, 1));
    CHECK.noArgument(x, "an eleventh player, with purse -1", () -> x.come(-1, 1));
    CHECK.noArgument(x, "an eleventh player, with temper 0", () -> x.come(0, 0));
    CHECK.noArgument(x, "an eleventh player, with temper 10", () -> x.come(0, 10));
    CHECK.is("players", x.count(3), 10);
  }

  private static void go() {
    PennyArcade x = new PennyArcade();
    x.addPusher(9, 0);
    x.addPusher(9, 0);
    x.come(10, 9);
    x.come(0, 9);
    CHECK.is("go from none", x.go(0, 1), -1);
    CHECK.is("go to the other", x.go(0, 0), 1);
    CHECK.is("go without a token", x.go(1, 0), -1);
    CHECK.is("players at 0", x.machine(0, 7), 2);
    x.pass(3);
    CHECK.is("lost in a row", x.player(0, 3), 3);
    CHECK.is("go to the same", x.go(0, 0), 0);
    CHECK.is("lost behind going to the same", x.player(0, 3), 0);
    x.pass(2);
    CHECK.is("lost again", x.player(0, 3), 2);
    CHECK.is("go to none", x.go(0, -1), 0);
    facts(x, 0, 5, 9, -1, 0, 5, 0);
    CHECK.is("go from none to none", x.go(0, -1), -1);
    for (int wrong : new int[] {-1, 2, MIN, MAX}) {
      CHECK.noIndex(x, "go of player " + wrong, () -> x.go(wrong, 0));
    }
    for (int wrong : new int[] {-2, 2, MIN, MAX}) {
      CHECK.noIndex(x, "go to machine " + wrong, () -> x.go(0, wrong));
    }
  }

  private static void playAtTable() {
    PennyArcade x = new PennyArcade();
    x.addTable(3, 2, 10);
    x.setCup(0, 2, 20);
    x.setCup(0, 1, 4);
    x.come(20, 1);
    CHECK.is("the middle pays 4", x.play(0, 0, 1, 0), 4);
    facts(x, 0, 23, 1, -1, 0, 1, 4);
    CHECK.is("the right pays all of the box, with the token", x.play(0, 0, 0, 1), 8);
    CHECK.is("the box is empty", x.machine(0, 4), 0);
    CHECK.is("the token itself is paid back", x.play(0, 0, 2, 0), 1);
    CHECK.is("the left pays none, and one loses, but stays", x.play(0, 0, 0, -1), 0);
    facts(x, 0, 29, 1, -1, 0, 4, 13);
    CHECK.is("the box has the token", x.machine(0, 4), 1);
    CHECK.is("let in", x.machine(0, 8), 4);
    CHECK.is("paid", x.machine(0, 9), 13);
    CHECK.is("worn", x.machine(0, 5), 4);
    CHECK.is("no round goes by", x.count(0), 0);
  }

  private static void playAtPusher() {
    PennyArcade x = new PennyArcade();
    x.addPusher(1, 30);
    x.addPusher(9, 0);
    x.come(40, 3);
    x.go(0, 1);
    x.pass(2);
    int[] due = {0, 0, 0, 0, 0, 1, 1};
    for (int pay : due) {
      CHECK.is("what falls", x.play(0, 0, MAX, MIN), pay);
    }
    for (int place = 0; place < 5; place++) {
      CHECK.is("ledge(0, " + place + ")", x.ledge(0, place), 1);
    }
    CHECK.is("the box is not touched", x.machine(0, 4), 30);
    CHECK.is("coins", x.machine(0, 10), 5);
    facts(x, 0, 33, 3, 1, 2, 9, 2);
  }

  private static void playRefused() {
    PennyArcade x = new PennyArcade();
    x.addTable(3, 2, 0);
    x.addPusher(9, 0);
    x.come(60, 1);
    x.come(0, 1);
    for (int wrong : new int[] {-1, 2, MIN, MAX}) {
      CHECK.noIndex(x, "play of player " + wrong, () -> x.play(wrong, 0, -1, 0));
      CHECK.noIndex(x, "play at machine " + wrong, () -> x.play(1, wrong, -1, 5));
    }
    for (int wrong : new int[] {-1, 3, 9, MIN, MAX}) {
      CHECK.noArgument(x, "play in column " + wrong, () -> x.play(0, 0, wrong, 0));
      CHECK.noArgument(x, "play in column " + wrong + " with no token", () -> x.play(1, 0, wrong, 0));
    }
    for (int wrong : new int[] {-2, 2, MIN, MAX}) {
      CHECK.noArgument(x, "play with tilt " + wrong, () -> x.play(0, 0, 0, wrong));
      CHECK.noArgument(x, "play with tilt " + wrong + " and no token", () -> x.play(1, 0, 0, wrong));
    }
    CHECK.noState(x, "play with no token", () -> x.play(1, 0, 0, 0));
    CHECK.noState(x, "play at a pusher with no token", () -> x.play(1, 1, -1, 9));
    for (int i = 0; i < 20; i++) {
      x.play(0, 0, 0, 0);
      x.play(0, 1, 0, 0);
    }
    CHECK.noState(x, "play at a jammed table", () -> x.play(0, 0, 0, 0));
    CHECK.noState(x, "play at a jammed pusher", () -> x.play(0, 1, 0, 0));
    CHECK.noState(x, "play at a jammed table with no token", () -> x.play(1, 0, 0, 0));
    CHECK.noArgument(x, "play at a jammed table in no column", () -> x.play(0, 0, 3, 0));
    CHECK.noArgument(x, "play at a jammed table with no such tilt", () -> x.play(0, 0, 0, 2));
    CHECK.noIndex(x, "play of no player at a jammed table", () -> x.play(2, 0, 3, 2));
    CHECK.noIndex(x, "play at no machine with no token", () -> x.play(1, 2, 0, 0));
  }

  private static void player() {
    PennyArcade x = new PennyArcade();
    x.addPusher(1, 0);
    x.come(7, 9);
    x.go(0, 0);
    x.pass(5);
    facts(x, 0, 2, 9, 0, 5, 5, 0);
    x.pass(1);
    facts(x, 0, 2, 9, 0, 0, 6, 1);
    for (int wrong : new int[] {-1, 1, 10, MIN, MAX}) {
      CHECK.noIndex(x, "player(" + wrong + ", 0)", () -> x.player(wrong, 0));
    }
    for (int wrong : new int[] {-1, 6, MIN, MAX}) {
      CHECK.noIndex(x, "player(0, " + wrong + ")", () -> x.player(0, wrong));
    }
  }

  private static void jamStopsPlay() {
    PennyArcade x = new PennyArcade();
    x.addPusher(1, 0);
    x.addTable(3, 2, 0);
    x.come(100, 9);
    x.come(100, 9);
    x.come(1, 9);
    x.go(0, 0);
    x.go(1, 0);
    x.go(2, 1);
    for (int i = 0; i < 19; i++) {
      x.play(0, 0, 0, 0);
    }
    CHECK.is("worn to 19, and works", x.machine(0, 6), 0);
    x.pass(1);
    CHECK.is("the player 0 jams it and stays in this round", x.player(0, 2), 0);
    CHECK.is("the player 1 finds it jammed and leaves", x.player(1, 2), -1);
    CHECK.is("the player 1 has not played", x.player(1, 0), 100);
    CHECK.is("the player 2 plays the last token and stays in this round", x.player(2, 2), 1);
    CHECK.is("and has none", x.player(2, 0), 0);
    x.pass(1);
    CHECK.is("the player 0 leaves, and goes nowhere yet", x.player(0, 2), -1);
    CHECK.is("what one had lost is forgotten", x.player(0, 3), 0);
    CHECK.is("the player 1 goes to what works", x.player(1, 2), 1);
    CHECK.is("the player without a token leaves", x.player(2, 2), -1);
    x.pass(1);
    CHECK.is("the player 0 goes a round later", x.player(0, 2), 1);
    CHECK.is("the player without a token stays away", x.player(2, 2), -1);
    CHECK.is("the wear stands at 20", x.machine(0, 5), 20);
  }

  private static void losersLeave() {
    PennyArcade x = new PennyArcade();
    x.addPusher(9, 0);
    x.come(50, 2);
    x.come(50, 1);
    x.come(1, 1);
    for (int player = 0; player < 3; player++) {
      x.go(player, 0);
    }
    x.play(0, 0, 0, 0);
    CHECK.is("a loss by a call is not in the row", x.player(0, 3), 0);
    x.pass(1);
    facts(x, 0, 48, 2, 0, 1, 2, 0);
    facts(x, 1, 49, 1, -1, 0, 1, 0);
    facts(x, 2, 0, 1, -1, 0, 1, 0);
    x.pass(1);
    facts(x, 0, 47, 2, -1, 0, 3, 0);
    CHECK.is("the one who left goes there again", x.player(1, 2), 0);
    CHECK.is("and does not play in this round", x.player(1, 4), 1);
    x.pass(1);
    facts(x, 0, 47, 2, 0, 0, 3, 0);
    facts(x, 1, 48, 1, -1, 0, 2, 0);
  }

  private static void playersChoose() {
    PennyArcade x = new PennyArcade();
    x.addTable(3, 2, 5);
    x.addTable(3, 2, 6);
    x.addPusher(9, 4);
    x.addTable(3, 2, 6);
    x.come(100, 9);
    x.come(0, 9);
    x.come(100, 9);
    x.play(2, 2, 0, 0);
    x.play(2, 2, 0, 0);
    x.pass(1);
    CHECK.is("of three with 6 the smallest number", x.player(0, 2), 1);
    CHECK.is("without a token one stays at none", x.player(1, 2), -1);
    x.play(2, 2, 0, 0);
    x.go(0, -1);
    x.pass(1);
    CHECK.is("a pusher counts box and ledge", x.player(0, 2), 2);
    for (int i = 0; i < 20; i++) {
      if (x.machine(2, 6) == 0) {
        x.play(2, 2, 0, 0);
      }
    }
    x.go(0, -1);
    x.go(2, 0);
    x.pass(1);
    CHECK.is("a jammed one is passed over", x.player(0, 2), 1);
    PennyArcade alone = new PennyArcade();
    alone.come(5, 1);
    CHECK.is("no machine at all", alone.pass(3), 0);
    CHECK.is("so one stays at none", alone.player(0, 2), -1);
    alone.addTable(3, 2, 0);
    alone.pass(1);
    CHECK.is("an empty box will do", alone.player(0, 2), 0);
  }

  private static void playersSeeWhatOthersDid() {
    PennyArcade x = new PennyArcade();
    x.addTable(3, 2, 5);
    x.addTable(3, 2, 5);
    x.come(100, 9);
    x.come(100, 9);
    x.come(100, 9);
    x.go(1, 1);
    x.pass(1);
    CHECK.is("the player 0 sees 5 and 5", x.player(0, 2), 0);
    CHECK.is("the player 2 sees 5 and 6", x.player(2, 2), 1);
  }

  private static void tableInRounds() {
    PennyArcade x = new PennyArcade();
    x.addTable(3, 2, 100);
    x.setCup(0, 0, 3);
    x.setCup(0, 1, 5);
    x.setCup(0, 2, 7);
    x.bend(0, 0, 1, -1);
    x.bend(0, 1, 0, -1);
    x.bend(0, 0, 0, -1);
    x.come(10, 9);
    x.go(0, 0);
    CHECK.is("round 0, column 0: all come to the left", x.pass(1), 3);
    CHECK.is("round 1, column 1: likewise", x.pass(1), 3);
    CHECK.is("round 2, column 2: the best tilt", x.pass(1), 7);
    CHECK.is("round 3, column 0 again", x.pass(1), 3);
    CHECK.is("the purse", x.player(0, 0), 22);
    CHECK.is("the box", x.machine(0, 4), 88);
  }

  private static void payNearAllOfTheBox() {
    int[][] due = {{0, 1, 0}, {18, 19, 0}, {19, 20, 0}, {20, 20, 1}};
    for (int[] row : due) {
      PennyArcade x = new PennyArcade();
      x.addTable(3, 2, row[0]);
      x.setCup(0, 1, 20);
      x.come(5, 9);
      CHECK.is("a pay of 20 out of a box of " + row[0], x.play(0, 0, 1, 0), row[1]);
      CHECK.is("what is left of it", x.machine(0, 4), row[2]);
    }
  }

  private static void playWithTheLastToken() {
    PennyArcade x = new PennyArcade();
    x.addTable(3, 2, 0);
    x.come(1, 1);
    x.come(500, 1);
    CHECK.is("the last token is played", x.play(0, 0, 0, 0), 0);
    CHECK.noState(x, "play without it", () -> x.play(0, 0, 0, 0));
    x.setCup(0, 0, 20);
    CHECK.is("the box pays all", x.play(1, 0, 0, 0), 2);
    facts(x, 1, 501, 1, -1, 0, 1, 2);
  }

  private static void lastOfTenPlayers() {
    PennyArcade x = new PennyArcade();
    for (int machine = 0; machine < 8; machine++) {
      x.addPusher(9, 0);
    }
    for (int player = 0; player < 10; player++) {
      x.come(10 + player, 9);
    }
    CHECK.is("player 9 goes to machine 7", x.go(9, 7), -1);
    CHECK.is("player 9 plays there", x.play(9, 7, 0, 0), 0);
    facts(x, 9, 18, 9, 7, 0, 1, 0);
    CHECK.noIndex(x, "player 10", () -> x.player(10, 0));
    CHECK.noIndex(x, "go of player 10", () -> x.go(10, 0));
    CHECK.noIndex(x, "go to machine 8", () -> x.go(9, 8));
    CHECK.noIndex(x, "play of player 10", () -> x.play(10, 0, 0, 0));
    CHECK.noIndex(x, "play at machine 8", () -> x.play(9, 8, 0, 0));
  }

  private static void temperOfOneToNine() {
    PennyArcade x = new PennyArcade();
    x.addTable(3, 2, 0);
    x.come(50, 9);
    x.go(0, 0);
    x.pass(8);
    facts(x, 0, 42, 9, 0, 8, 8, 0);
    x.pass(1);
    facts(x, 0, 41, 9, -1, 0, 9, 0);
    for (int temper = 1; temper <= 9; temper++) {
      PennyArcade y = new PennyArcade();
      y.addTable(3, 2, 0);
      y.come(50, temper);
      y.go(0, 0);
      for (int round = 1; round < temper; round++) {
        y.pass(1);
        CHECK.is("temper " + temper + " stays behind loss " + round, y.player(0, 2), 0);
      }
      y.pass(1);
      CHECK.is("temper " + temper + " leaves behind as many losses", y.player(0, 2), -1);
    }
  }

  private static void winsEndTheRowOfLosses() {
    PennyArcade x = new PennyArcade();
    x.addTable(3, 2, 50);
    for (int column = 0; column < 3; column++) {
      x.bend(0, 0, column, -1);
      x.bend(0, 1, column, column == 0 ? -1 : 1);
    }
    x.setCup(0, 2, 1);
    x.come(50, 3);
    x.go(0, 0);
    int[] due = {1, 2, 0, 1, 2, 0, 1};
    for (int round = 0; round < due.length; round++) {
      x.pass(1);
      CHECK.is("lost in a row behind round " + round, x.player(0, 3), due[round]);
      CHECK.is("there behind round " + round, x.player(0, 2), 0);
    }
    facts(x, 0, 45, 3, 0, 1, 7, 2);
    x.play(0, 0, 2, 0);
    CHECK.is("a win by a call leaves the row as it was", x.player(0, 3), 1);
  }

  private static void lastTokenWins() {
    PennyArcade x = new PennyArcade();
    x.addTable(3, 2, 5);
    for (int column = 0; column < 3; column++) {
      x.setCup(0, column, 1);
    }
    x.come(1, 1);
    x.go(0, 0);
    CHECK.is("the last token is won back each time", x.pass(19), 19);
    facts(x, 0, 1, 1, 0, 0, 19, 19);
  }

  private static void noMachineWorks() {
    PennyArcade x = new PennyArcade();
    x.addTable(3, 2, 5);
    x.addPusher(9, 5);
    x.come(100, 9);
    x.setSkill(5);
    for (int i = 0; i < 20; i++) {
      x.play(0, 0, 0, 0);
      x.play(0, 1, 0, 0);
    }
    x.pass(2);
    CHECK.is("all are jammed, so one stays at none", x.player(0, 2), -1);
    x.call(1);
    x.pass(1);
    CHECK.is("the mechanic works behind the players", x.player(0, 2), -1);
    CHECK.is("one works again", x.machine(1, 6), 0);
    x.pass(1);
    CHECK.is("so one goes there", x.player(0, 2), 1);
    CHECK.is("and has not played yet", x.player(0, 4), 40);
  }

  private static void atTheJammedOne() {
    PennyArcade x = new PennyArcade();
    x.addTable(3, 2, 0);
    x.addTable(3, 2, 9);
    x.come(100, 9);
    x.come(0, 9);
    for (int i = 0; i < 20; i++) {
      x.play(0, 0, 0, 0);
    }
    CHECK.is("go to a jammed one", x.go(0, 0), -1);
    x.go(1, 0);
    CHECK.is("both are there", x.machine(0, 7), 2);
    x.pass(1);
    CHECK.is("one leaves it, and goes nowhere in this round", x.player(0, 2), -1);
    CHECK.is("the one without a token leaves it, too", x.player(1, 2), -1);
    x.pass(1);
    CHECK.is("one goes to what works", x.player(0, 2), 1);
    CHECK.is("without a token one does not", x.player(1, 2), -1);
    x.go(0, -1);
    x.pass(1);
    CHECK.is("who left by a call goes in the next round", x.player(0, 2), 1);
  }

  private static void noPlayerOrMachineIsNamedFirst() {
    PennyArcade x = new PennyArcade();
    x.addTable(3, 2, 0);
    x.come(30, 9);
    x.come(0, 9);
    for (int i = 0; i < 20; i++) {
      x.play(0, 0, 0, 0);
    }
    for (int none : new int[] {-1, 2, MIN, MAX}) {
      CHECK.noIndex(x, "play of player " + none + " at a jammed table", () -> x.play(none, 0, 0, 0));
      CHECK.noIndex(x, "play at machine " + none + " with no token", () -> x.play(1, none, 0, 0));
      for (int wrong : new int[] {-2, 3, MIN, MAX}) {
        CHECK.noIndex(x, "play of player " + none + " in column " + wrong, () -> x.play(none, 0, wrong, 0));
        CHECK.noIndex(x, "play of player " + none + " with tilt " + wrong, () -> x.play(none, 0, 0, wrong));
        CHECK.noIndex(x, "play at machine " + none + " in column " + wrong, () -> x.play(0, none, wrong, 0));
        CHECK.noIndex(x, "play at machine " + none + " with tilt " + wrong, () -> x.play(0, none, 0, wrong));
      }
    }
  }

  private static void whoLeavesForgetsLosses() {
    PennyArcade x = new PennyArcade();
    x.addTable(3, 2, 0);
    x.come(50, 9);
    x.come(2, 9);
    x.go(0, 0);
    x.go(1, 0);
    x.pass(2);
    facts(x, 0, 48, 9, 0, 2, 2, 0);
    facts(x, 1, 0, 9, 0, 2, 2, 0);
    x.pass(1);
    facts(x, 0, 47, 9, 0, 3, 3, 0);
    facts(x, 1, 0, 9, -1, 0, 2, 0);
    for (int i = 0; i < 15; i++) {
      x.play(0, 0, 0, 0);
    }
    CHECK.is("it is jammed", x.machine(0, 6), 1);
    facts(x, 0, 32, 9, 0, 3, 18, 0);
    x.pass(1);
    facts(x, 0, 32, 9, -1, 0, 18, 0);
  }
}
