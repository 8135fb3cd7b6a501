/** Promises 11 to 14: the players, called one by one and by rounds. */
final class PlayersTest {
  private static final Check CHECK = new Check("PlayersTest");
  private static final int MIN = Integer.MIN_VALUE;
  private static final int MAX = Integer.MAX_VALUE;

  public static void main(String[] args) {
    come();
    go();
    playAtTable();
    playAtPusher();
    playRefused();
    player();
    jamStopsPlay();
    losersLeave();
    playersChoose();
    playersSeeWhatOthersDid();
    tableInRounds();
    CHECK.finish();
  }

  private static void facts(PennyArcade x, int player, int... due) {
    for (int what = 0; what < due.length; what++) {
      CHECK.is("player(" + player + ", " + what + ")", x.player(player, what), due[what]);
    }
  }

  private static void come() {
    PennyArcade x = new PennyArcade();
    for (int wrong : new int[] {-1, 501, MIN, MAX}) {
      CHECK.noArgument(x, "come with purse " + wrong, () -> x.come(wrong, 1));
    }
    for (int wrong : new int[] {0, 10, -1, MIN, MAX}) {
      CHECK.noArgument(x, "come with temper " + wrong, () -> x.come(0, wrong));
    }
    CHECK.is("the poorest", x.come(0, 1), 0);
    CHECK.is("the richest", x.come(500, 9), 1);
    facts(x, 0, 0, 1, -1, 0, 0, 0);
    facts(x, 1, 500, 9, -1, 0, 0, 0);
    for (int number = 2; number < 10; number++) {
      CHECK.is("the number of a player", x.come(number, 5), number);
    }
    CHECK.noState(x, "an eleventh player", () -> x.come(0, 1));
    CHECK.noArgument(x, "an eleventh player, and a wrong one", () -> x.come(501, 1));
    CHECK.is("players", x.count(3), 10);
  }

  private static void go() {
    PennyArcade x = new PennyArcade();
    x.addPusher(9, 0);
    x.addPusher(9, 0);
    x.come(10, 9);
    x.come(0, 9);
    CHECK.is("go from none", x.go(0, 1), -1);
    CHECK.is("go to the other", x.go(0, 0), 1);
    CHECK.is("go without a token", x.go(1, 0), -1);
    CHECK.is("players at 0", x.machine(0, 7), 2);
    x.pass(3);
    CHECK.is("lost in a row", x.player(0, 3), 3);
    CHECK.is("go to the same", x.go(0, 0), 0);
    CHECK.is("lost behind going to the same", x.player(0, 3), 0);
    x.pass(2);
    CHECK.is("lost again", x.player(0, 3), 2);
    CHECK.is("go to none", x.go(0, -1), 0);
    facts(x, 0, 5, 9, -1, 0, 5, 0);
    CHECK.is("go from none to none", x.go(0, -1), -1);
    for (int wrong : new int[] {-1, 2, MIN, MAX}) {
      CHECK.noIndex(x, "go of player " + wrong, () -> x.go(wrong, 0));
    }
    for (int wrong : new int[] {-2, 2, MIN, MAX}) {
      CHECK.noIndex(x, "go to machine " + wrong, () -> x.go(0, wrong));
    }
  }

  private static void playAtTable() {
    PennyArcade x = new PennyArcade();
    x.addTable(3, 2, 10);
    x.setCup(0, 2, 20);
    x.setCup(0, 1, 4);
    x.come(20, 1);
    CHECK.is("the middle pays 4", x.play(0, 0, 1, 0), 4);
    facts(x, 0, 23, 1, -1, 0, 1, 4);
    CHECK.is("the right pays all of the box, with the token", x.play(0, 0, 0, 1), 8);
    CHECK.is("the box is empty", x.machine(0, 4), 0);
    CHECK.is("the token itself is paid back", x.play(0, 0, 2, 0), 1);
    CHECK.is("the left pays none, and one loses, but stays", x.play(0, 0, 0, -1), 0);
    facts(x, 0, 29, 1, -1, 0, 4, 13);
    CHECK.is("the box has the token", x.machine(0, 4), 1);
    CHECK.is("let in", x.machine(0, 8), 4);
    CHECK.is("paid", x.machine(0, 9), 13);
    CHECK.is("worn", x.machine(0, 5), 4);
    CHECK.is("no round goes by", x.count(0), 0);
  }

  private static void playAtPusher() {
    PennyArcade x = new PennyArcade();
    x.addPusher(1, 30);
    x.addPusher(9, 0);
    x.come(40, 3);
    x.go(0, 1);
    x.pass(2);
    int[] due = {0, 0, 0, 0, 0, 1, 1};
    for (int pay : due) {
      CHECK.is("what falls", x.play(0, 0, MAX, MIN), pay);
    }
    for (int place = 0; place < 5; place++) {
      CHECK.is("ledge(0, " + place + ")", x.ledge(0, place), 1);
    }
    CHECK.is("the box is not touched", x.machine(0, 4), 30);
    CHECK.is("coins", x.machine(0, 10), 5);
    facts(x, 0, 33, 3, 1, 2, 9, 2);
  }

  private static void playRefused() {
    PennyArcade x = new PennyArcade();
    x.addTable(3, 2, 0);
    x.addPusher(9, 0);
    x.come(60, 1);
    x.come(0, 1);
    for (int wrong : new int[] {-1, 2, MIN, MAX}) {
      CHECK.noIndex(x, "play of player " + wrong, () -> x.play(wrong, 0, -1, 0));
      CHECK.noIndex(x, "play at machine " + wrong, () -> x.play(1, wrong, -1, 5));
    }
    for (int wrong : new int[] {-1, 3, 9, MIN, MAX}) {
      CHECK.noArgument(x, "play in column " + wrong, () -> x.play(0, 0, wrong, 0));
      CHECK.noArgument(x, "play in column " + wrong + " with no token", () -> x.play(1, 0, wrong, 0));
    }
    for (int wrong : new int[] {-2, 2, MIN, MAX}) {
      CHECK.noArgument(x, "play with tilt " + wrong, () -> x.play(0, 0, 0, wrong));
    }
    CHECK.noState(x, "play with no token", () -> x.play(1, 0, 0, 0));
    CHECK.noState(x, "play at a pusher with no token", () -> x.play(1, 1, -1, 9));
    for (int i = 0; i < 20; i++) {
      x.play(0, 0, 0, 0);
      x.play(0, 1, 0, 0);
    }
    CHECK.noState(x, "play at a jammed table", () -> x.play(0, 0, 0, 0));
    CHECK.noState(x, "play at a jammed pusher", () -> x.play(0, 1, 0, 0));
    CHECK.noArgument(x, "play at a jammed table in no column", () -> x.play(0, 0, 3, 0));
  }

  private static void player() {
    PennyArcade x = new PennyArcade();
    x.addPusher(1, 0);
    x.come(7, 9);
    x.go(0, 0);
    x.pass(5);
    facts(x, 0, 2, 9, 0, 5, 5, 0);
    x.pass(1);
    facts(x, 0, 2, 9, 0, 0, 6, 1);
    for (int wrong : new int[] {-1, 1, 10, MIN, MAX}) {
      CHECK.noIndex(x, "player(" + wrong + ", 0)", () -> x.player(wrong, 0));
    }
    for (int wrong : new int[] {-1, 6, MIN, MAX}) {
      CHECK.noIndex(x, "player(0, " + wrong + ")", () -> x.player(0, wrong));
    }
  }

  private static void jamStopsPlay() {
    PennyArcade x = new PennyArcade();
    x.addPusher(1, 0);
    x.addTable(3, 2, 0);
    x.come(100, 9);
    x.come(100, 9);
    x.come(1, 9);
    x.go(0, 0);
    x.go(1, 0);
    x.go(2, 1);
    for (int i = 0; i < 19; i++) {
      x.play(0, 0, 0, 0);
    }
    CHECK.is("worn to 19, and works", x.machine(0, 6), 0);
    x.pass(1);
    CHECK.is("the player 0 jams it and stays in this round", x.player(0, 2), 0);
    CHECK.is("the player 1 finds it jammed and leaves", x.player(1, 2), -1);
    CHECK.is("the player 1 has not played", x.player(1, 0), 100);
    CHECK.is("the player 2 plays the last token and stays in this round", x.player(2, 2), 1);
    CHECK.is("and has none", x.player(2, 0), 0);
    x.pass(1);
    CHECK.is("the player 0 leaves, and goes nowhere yet", x.player(0, 2), -1);
    CHECK.is("what one had lost is forgotten", x.player(0, 3), 0);
    CHECK.is("the player 1 goes to what works", x.player(1, 2), 1);
    CHECK.is("the player without a token leaves", x.player(2, 2), -1);
    x.pass(1);
    CHECK.is("the player 0 goes a round later", x.player(0, 2), 1);
    CHECK.is("the player without a token stays away", x.player(2, 2), -1);
    CHECK.is("the wear stands at 20", x.machine(0, 5), 20);
  }

  private static void losersLeave() {
    PennyArcade x = new PennyArcade();
    x.addPusher(9, 0);
    x.come(50, 2);
    x.come(50, 1);
    x.come(1, 1);
    for (int player = 0; player < 3; player++) {
      x.go(player, 0);
    }
    x.play(0, 0, 0, 0);
    CHECK.is("a loss by a call is not in the row", x.player(0, 3), 0);
    x.pass(1);
    facts(x, 0, 48, 2, 0, 1, 2, 0);
    facts(x, 1, 49, 1, -1, 0, 1, 0);
    facts(x, 2, 0, 1, -1, 0, 1, 0);
    x.pass(1);
    facts(x, 0, 47, 2, -1, 0, 3, 0);
    CHECK.is("the one who left goes there again", x.player(1, 2), 0);
    CHECK.is("and does not play in this round", x.player(1, 4), 1);
    x.pass(1);
    facts(x, 0, 47, 2, 0, 0, 3, 0);
    facts(x, 1, 48, 1, -1, 0, 2, 0);
  }

  private static void playersChoose() {
    PennyArcade x = new PennyArcade();
    x.addTable(3, 2, 5);
    x.addTable(3, 2, 6);
    x.addPusher(9, 4);
    x.addTable(3, 2, 6);
    x.come(100, 9);
    x.come(0, 9);
    x.come(100, 9);
    x.play(2, 2, 0, 0);
    x.play(2, 2, 0, 0);
    x.pass(1);
    CHECK.is("of three with 6 the smallest number", x.player(0, 2), 1);
    CHECK.is("without a token one stays at none", x.player(1, 2), -1);
    x.play(2, 2, 0, 0);
    x.go(0, -1);
    x.pass(1);
    CHECK.is("a pusher counts box and ledge", x.player(0, 2), 2);
    for (int i = 0; i < 20; i++) {
      if (x.machine(2, 6) == 0) {
        x.play(2, 2, 0, 0);
      }
    }
    x.go(0, -1);
    x.go(2, 0);
    x.pass(1);
    CHECK.is("a jammed one is passed over", x.player(0, 2), 1);
    PennyArcade alone = new PennyArcade();
    alone.come(5, 1);
    CHECK.is("no machine at all", alone.pass(3), 0);
    CHECK.is("so one stays at none", alone.player(0, 2), -1);
    alone.addTable(3, 2, 0);
    alone.pass(1);
    CHECK.is("an empty box will do", alone.player(0, 2), 0);
  }

  private static void playersSeeWhatOthersDid() {
    PennyArcade x = new PennyArcade();
    x.addTable(3, 2, 5);
    x.addTable(3, 2, 5);
    x.come(100, 9);
    x.come(100, 9);
    x.come(100, 9);
    x.go(1, 1);
    x.pass(1);
    CHECK.is("the player 0 sees 5 and 5", x.player(0, 2), 0);
    CHECK.is("the player 2 sees 5 and 6", x.player(2, 2), 1);
  }

  private static void tableInRounds() {
    PennyArcade x = new PennyArcade();
    x.addTable(3, 2, 100);
    x.setCup(0, 0, 3);
    x.setCup(0, 1, 5);
    x.setCup(0, 2, 7);
    x.bend(0, 0, 1, -1);
    x.bend(0, 1, 0, -1);
    x.bend(0, 0, 0, -1);
    x.come(10, 9);
    x.go(0, 0);
    CHECK.is("round 0, column 0: all come to the left", x.pass(1), 3);
    CHECK.is("round 1, column 1: likewise", x.pass(1), 3);
    CHECK.is("round 2, column 2: the best tilt", x.pass(1), 7);
    CHECK.is("round 3, column 0 again", x.pass(1), 3);
    CHECK.is("the purse", x.player(0, 0), 22);
    CHECK.is("the box", x.machine(0, 4), 88);
  }
}
