import java.util.ArrayList;

/** A penny arcade: tables of pins, coin pushers, those who play at them, and one mechanic. */
public final class PennyArcade {
  private static final int NONE = -1;

  private static final int MOST_MACHINES = 8;
  private static final int MOST_PLAYERS = 10;
  private static final int MOST_BOX = 9999;
  private static final int MOST_STRENGTH = 9;
  private static final int MOST_PURSE = 500;
  private static final int MOST_TEMPER = 9;
  private static final int MOST_PAY = 20;
  private static final int MOST_SKILL = 5;
  private static final int MOST_ROUNDS = 200;
  private static final int MOST_ADVISED_ROUNDS = 60;

  private static final int MACHINE_FACTS = 11;
  private static final int PLAYER_FACTS = 6;
  private static final int COUNTS = 10;
  private static final int COUNT_JAMMED = 2;
  private static final int COUNT_BOXES = 6;
  private static final int FORESIGHTS = 3;

  private static final long DIGEST_START = 631;

  private final ArrayList<Machine> machines;
  private final ArrayList<Player> players;
  private final Mechanic mechanic;
  private int round;
  private int keptRound;

  public PennyArcade() {
    machines = new ArrayList<>();
    players = new ArrayList<>();
    mechanic = new Mechanic();
  }

  // ---- machines

  public int addTable(int columns, int rows, int box) throws IllegalArgumentException, IllegalStateException {
    if (!isWithin(columns, Table.LEAST_COLUMNS, Table.MOST_COLUMNS)
        || !isWithin(rows, Table.LEAST_ROWS, Table.MOST_ROWS)
        || !isWithin(box, 0, MOST_BOX)) {
      throw new IllegalArgumentException("columns, rows or box out of range");
    }
    requireRoomForMachine();
    machines.add(new Table(machines.size(), box, columns, rows));
    return machines.size() - 1;
  }

  public int addPusher(int strength, int box) throws IllegalArgumentException, IllegalStateException {
    if (!isWithin(strength, 1, MOST_STRENGTH) || !isWithin(box, 0, MOST_BOX)) {
      throw new IllegalArgumentException("strength or box out of range");
    }
    requireRoomForMachine();
    machines.add(new Pusher(machines.size(), box, strength));
    return machines.size() - 1;
  }

  public int bend(int machine, int row, int column, int side)
      throws IndexOutOfBoundsException, IllegalArgumentException {
    Table table = tableNumbered(machine);
    if (!table.hasPin(row, column) || !isSide(side)) {
      throw new IllegalArgumentException("no such pin or side");
    }
    return table.bendPin(row, column, side);
  }

  public int setCup(int machine, int column, int pay) throws IndexOutOfBoundsException, IllegalArgumentException {
    Table table = tableNumbered(machine);
    if (!table.hasColumn(column) || !isWithin(pay, 0, MOST_PAY)) {
      throw new IllegalArgumentException("no such column or pay");
    }
    return table.changePay(column, pay);
  }

  public int machine(int machine, int what) throws IndexOutOfBoundsException {
    Machine asked = machineNumbered(machine);
    if (!isWithin(what, 0, MACHINE_FACTS - 1)) {
      throw new IndexOutOfBoundsException("no such fact of a machine");
    }
    return factOfMachine(asked, what);
  }

  public int ends(int machine, int column, int tilt) throws IndexOutOfBoundsException, IllegalArgumentException {
    Table table = tableNumbered(machine);
    if (!table.hasColumn(column) || !isSide(tilt)) {
      throw new IllegalArgumentException("no such column or tilt");
    }
    return table.endOf(column, tilt);
  }

  public int bestTilt(int machine, int column) throws IndexOutOfBoundsException, IllegalArgumentException {
    Table table = tableNumbered(machine);
    if (!table.hasColumn(column)) {
      throw new IllegalArgumentException("no such column");
    }
    return table.favouriteTilt(column);
  }

  public int dead(int machine) throws IndexOutOfBoundsException, IllegalArgumentException {
    return tableNumbered(machine).countDeadCups();
  }

  public int ledge(int machine, int place) throws IndexOutOfBoundsException, IllegalArgumentException {
    Machine asked = machineNumbered(machine);
    if (asked instanceof Pusher pusher && pusher.hasPlace(place)) {
      return pusher.coinsAt(place);
    }
    throw new IllegalArgumentException("no pusher or no such place");
  }

  // ---- players

  public int come(int purse, int temper) throws IllegalArgumentException, IllegalStateException {
    if (!isWithin(purse, 0, MOST_PURSE) || !isWithin(temper, 1, MOST_TEMPER)) {
      throw new IllegalArgumentException("purse or temper out of range");
    }
    if (players.size() >= MOST_PLAYERS) {
      throw new IllegalStateException("no room for another player");
    }
    players.add(new Player(purse, temper));
    return players.size() - 1;
  }

  public int go(int player, int machine) throws IndexOutOfBoundsException {
    Player goer = playerNumbered(player);
    Machine goal = machine == NONE ? null : machineNumbered(machine);
    int before = goer.placeNumber();
    goer.moveTo(goal);
    return before;
  }

  public int play(int player, int machine, int column, int tilt)
      throws IndexOutOfBoundsException, IllegalArgumentException, IllegalStateException {
    Player one = playerNumbered(player);
    Machine chosen = machineNumbered(machine);
    if (chosen instanceof Table table && (!table.hasColumn(column) || !isSide(tilt))) {
      throw new IllegalArgumentException("no such column or tilt");
    }
    if (chosen.jammed || !one.hasToken()) {
      throw new IllegalStateException("the machine is jammed or the purse is empty");
    }
    return one.playAt(chosen, column, tilt);
  }

  public int player(int player, int what) throws IndexOutOfBoundsException {
    Player asked = playerNumbered(player);
    if (!isWithin(what, 0, PLAYER_FACTS - 1)) {
      throw new IndexOutOfBoundsException("no such fact of a player");
    }
    return asked.fact(what);
  }

  // ---- the mechanic

  public int setSkill(int skill) throws IllegalArgumentException {
    if (!isWithin(skill, 0, MOST_SKILL)) {
      throw new IllegalArgumentException("skill out of range");
    }
    int before = mechanic.skill;
    mechanic.skill = skill;
    return before;
  }

  public int call(int machine) throws IndexOutOfBoundsException, IllegalStateException {
    Machine called = machineNumbered(machine);
    if (mechanic.expects(called)) {
      throw new IllegalStateException("the machine is in the row of repairs");
    }
    mechanic.row.add(called);
    return mechanic.row.size();
  }

  public int repair(int index) throws IndexOutOfBoundsException {
    if (index < 0 || index >= mechanic.row.size()) {
      throw new IndexOutOfBoundsException("no such place in the row of repairs");
    }
    return mechanic.row.get(index).number;
  }

  // ---- rounds

  public int pass(int rounds) throws IllegalArgumentException {
    requireRounds(rounds, MOST_ROUNDS);
    return runRounds(rounds);
  }

  public int count(int what) throws IndexOutOfBoundsException {
    if (!isWithin(what, 0, COUNTS - 1)) {
      throw new IndexOutOfBoundsException("no such count");
    }
    return counted(what);
  }

  public int foresee(int rounds, int what) throws IllegalArgumentException, IndexOutOfBoundsException {
    requireRounds(rounds, MOST_ROUNDS);
    if (!isWithin(what, 0, FORESIGHTS - 1)) {
      throw new IndexOutOfBoundsException("no such foresight");
    }
    keepState();
    int paid = runRounds(rounds);
    int answer = what == 0 ? paid : counted(what == 1 ? COUNT_BOXES : COUNT_JAMMED);
    restoreState();
    return answer;
  }

  public int advise(int rounds) throws IllegalArgumentException {
    requireRounds(rounds, MOST_ADVISED_ROUNDS);
    int most = boxesBehind(rounds, null);
    int advised = NONE;
    for (int i = 0; i < machines.size(); i++) {
      Machine machine = machines.get(i);
      if (!mechanic.expects(machine)) {
        int boxes = boxesBehind(rounds, machine);
        if (boxes > most) {
          most = boxes;
          advised = i;
        }
      }
    }
    return advised;
  }

  public double back() {
    int letIn = 0;
    int paid = 0;
    for (int i = 0; i < machines.size(); i++) {
      letIn += machines.get(i).letIn;
      paid += machines.get(i).paid;
    }
    return letIn == 0 ? 0 : (double) paid / letIn;
  }

  public long digest() {
    long d = DIGEST_START;
    for (int what = 0; what < COUNTS; what++) {
      d = mixed(d, counted(what));
    }
    for (int i = 0; i < machines.size(); i++) {
      Machine machine = machines.get(i);
      for (int what = 0; what < MACHINE_FACTS; what++) {
        d = mixed(d, factOfMachine(machine, what));
      }
      d = machine.mixParts(d);
    }
    for (int i = 0; i < players.size(); i++) {
      for (int what = 0; what < PLAYER_FACTS; what++) {
        d = mixed(d, players.get(i).fact(what));
      }
    }
    for (int i = 0; i < mechanic.row.size(); i++) {
      d = mixed(d, mechanic.row.get(i).number);
    }
    return d;
  }

  // ---- what the calls ask first

  private static boolean isWithin(int value, int least, int most) {
    return value >= least && value <= most;
  }

  private static boolean isSide(int side) {
    return isWithin(side, Table.LEFT, Table.RIGHT);
  }

  private static void requireRounds(int rounds, int most) {
    if (!isWithin(rounds, 1, most)) {
      throw new IllegalArgumentException("rounds out of range");
    }
  }

  private void requireRoomForMachine() {
    if (machines.size() >= MOST_MACHINES) {
      throw new IllegalStateException("no room for another machine");
    }
  }

  private Machine machineNumbered(int number) {
    if (number < 0 || number >= machines.size()) {
      throw new IndexOutOfBoundsException("no such machine");
    }
    return machines.get(number);
  }

  private Table tableNumbered(int number) {
    Machine found = machineNumbered(number);
    if (found instanceof Table table) {
      return table;
    }
    throw new IllegalArgumentException("not a table");
  }

  private Player playerNumbered(int number) {
    if (number < 0 || number >= players.size()) {
      throw new IndexOutOfBoundsException("no such player");
    }
    return players.get(number);
  }

  // ---- what is told

  private int factOfMachine(Machine machine, int what) {
    switch (what) {
      case 0: return machine instanceof Table ? 0 : 1;
      case 1: return machine.columns();
      case 2: return machine.rows();
      case 3: return machine.strength();
      case 4: return machine.box;
      case 5: return machine.wear;
      case 6: return machine.jammed ? 1 : 0;
      case 7: return countPlayersAt(machine);
      case 8: return machine.letIn;
      case 9: return machine.paid;
      default: return machine.coins();
    }
  }

  private int counted(int what) {
    switch (what) {
      case 0: return round;
      case 1: return machines.size();
      case COUNT_JAMMED: return countJammed();
      case 3: return players.size();
      case 4: return players.size() - countPlayersAt(null);
      case 5: return sumOfPurses();
      case COUNT_BOXES: return sumOfBoxes();
      case 7: return sumOfLedges();
      case 8: return mechanic.row.size();
      default: return mechanic.roundsLeft;
    }
  }

  private int countPlayersAt(Machine place) {
    int there = 0;
    for (int i = 0; i < players.size(); i++) {
      if (players.get(i).place == place) {
        there++;
      }
    }
    return there;
  }

  private int countJammed() {
    int jammed = 0;
    for (int i = 0; i < machines.size(); i++) {
      if (machines.get(i).jammed) {
        jammed++;
      }
    }
    return jammed;
  }

  private int sumOfPurses() {
    int sum = 0;
    for (int i = 0; i < players.size(); i++) {
      sum += players.get(i).purse;
    }
    return sum;
  }

  private int sumOfBoxes() {
    int sum = 0;
    for (int i = 0; i < machines.size(); i++) {
      sum += machines.get(i).box;
    }
    return sum;
  }

  private int sumOfLedges() {
    int sum = 0;
    for (int i = 0; i < machines.size(); i++) {
      sum += machines.get(i).coins();
    }
    return sum;
  }

  private static long mixed(long d, long x) {
    return d * 31 + x;
  }

  // ---- how rounds go by

  private int runRounds(int rounds) {
    int paid = 0;
    for (int i = 0; i < rounds; i++) {
      for (int p = 0; p < players.size(); p++) {
        paid += takeTurn(players.get(p));
      }
      mechanic.work();
      round++;
    }
    return paid;
  }

  private int takeTurn(Player player) {
    Machine place = player.place;
    if (place == null) {
      if (player.hasToken()) {
        player.moveTo(richestWorking());
      }
      return 0;
    }
    if (place.jammed || !player.hasToken()) {
      player.moveTo(null);
      return 0;
    }
    int column = place.columnIn(round);
    int pay = player.playAt(place, column, place.favouriteTilt(column));
    player.feel(pay);
    return pay;
  }

  private Machine richestWorking() {
    Machine richest = null;
    for (int i = 0; i < machines.size(); i++) {
      Machine machine = machines.get(i);
      if (!machine.jammed && (richest == null || machine.tokensSeen() > richest.tokensSeen())) {
        richest = machine;
      }
    }
    return richest;
  }

  private int boxesBehind(int rounds, Machine called) {
    keepState();
    if (called != null) {
      mechanic.row.add(called);
    }
    runRounds(rounds);
    int boxes = sumOfBoxes();
    restoreState();
    return boxes;
  }

  // Foresight runs on the arcade itself and is taken back: so it needs no second arcade to be made.

  private void keepState() {
    keptRound = round;
    for (int i = 0; i < machines.size(); i++) {
      machines.get(i).keepState();
    }
    for (int i = 0; i < players.size(); i++) {
      players.get(i).keepState();
    }
    mechanic.keepState();
  }

  private void restoreState() {
    round = keptRound;
    for (int i = 0; i < machines.size(); i++) {
      machines.get(i).restoreState();
    }
    for (int i = 0; i < players.size(); i++) {
      players.get(i).restoreState();
    }
    mechanic.restoreState();
  }

  private abstract static class Machine {
    private static final int MOST_WEAR = 100;
    private static final int LEAST_JAMMING_WEAR = 20;
    private static final int JAMMING_STEP = 10;

    final int number;
    int box;
    int wear;
    boolean jammed;
    int letIn;
    int paid;

    private int keptBox;
    private int keptWear;
    private boolean keptJammed;
    private int keptLetIn;
    private int keptPaid;

    Machine(int number, int box) {
      this.number = number;
      this.box = box;
    }

    abstract int columns();

    abstract int rows();

    abstract int strength();

    abstract int coins();

    abstract int tokensSeen();

    abstract int columnIn(int round);

    abstract int favouriteTilt(int column);

    abstract int takeToken(int column, int tilt);

    abstract long mixParts(long d);

    abstract void keepParts();

    abstract void restoreParts();

    final void notePlay(int pay) {
      letIn++;
      paid += pay;
      wear = Math.min(wear + 1, MOST_WEAR);
      if (wear >= LEAST_JAMMING_WEAR && wear % JAMMING_STEP == 0) {
        jammed = true;
      }
    }

    final void mend() {
      wear = 0;
      jammed = false;
    }

    final void keepState() {
      keptBox = box;
      keptWear = wear;
      keptJammed = jammed;
      keptLetIn = letIn;
      keptPaid = paid;
      keepParts();
    }

    final void restoreState() {
      box = keptBox;
      wear = keptWear;
      jammed = keptJammed;
      letIn = keptLetIn;
      paid = keptPaid;
      restoreParts();
    }
  }

  private static final class Table extends Machine {
    static final int LEAST_COLUMNS = 3;
    static final int MOST_COLUMNS = 9;
    static final int LEAST_ROWS = 2;
    static final int MOST_ROWS = 12;
    static final int LEFT = -1;
    static final int STRAIGHT = 0;
    static final int RIGHT = 1;

    private final int columns;
    private final int rows;
    private final int[] pays;
    private final int[] sides;

    Table(int number, int box, int columns, int rows) {
      super(number, box);
      this.columns = columns;
      this.rows = rows;
      pays = new int[MOST_COLUMNS];
      sides = new int[MOST_ROWS * MOST_COLUMNS];
    }

    boolean hasColumn(int column) {
      return column >= 0 && column < columns;
    }

    boolean hasPin(int row, int column) {
      return row >= 0 && row < rows && hasColumn(column);
    }

    int bendPin(int row, int column, int side) {
      int pin = row * MOST_COLUMNS + column;
      if (pin < 0 || pin >= sides.length) {
        return STRAIGHT;
      }
      int before = sides[pin];
      sides[pin] = side;
      return before;
    }

    int changePay(int column, int pay) {
      int before = payOf(column);
      if (column >= 0 && column < pays.length) {
        pays[column] = pay;
      }
      return before;
    }

    private int payOf(int column) {
      return column >= 0 && column < pays.length ? pays[column] : 0;
    }

    private int sideOf(int row, int column) {
      int pin = row * MOST_COLUMNS + column;
      return pin >= 0 && pin < sides.length ? sides[pin] : STRAIGHT;
    }

    int endOf(int column, int tilt) {
      int at = column;
      for (int row = 0; row < rows; row++) {
        int side = sideOf(row, at);
        if (side == STRAIGHT && (row + at) % 2 == 0) {
          side = tilt;
        }
        if (hasColumn(at + side)) {
          at += side;
        }
      }
      return at;
    }

    int countDeadCups() {
      int dead = 0;
      for (int cup = 0; cup < columns; cup++) {
        if (!isReached(cup)) {
          dead++;
        }
      }
      return dead;
    }

    private boolean isReached(int cup) {
      for (int column = 0; column < columns; column++) {
        for (int tilt = LEFT; tilt <= RIGHT; tilt++) {
          if (endOf(column, tilt) == cup) {
            return true;
          }
        }
      }
      return false;
    }

    @Override
    int columns() {
      return columns;
    }

    @Override
    int rows() {
      return rows;
    }

    @Override
    int strength() {
      return 0;
    }

    @Override
    int coins() {
      return 0;
    }

    @Override
    int tokensSeen() {
      return box;
    }

    @Override
    int columnIn(int round) {
      return columns < 1 ? 0 : round % columns;
    }

    @Override
    int favouriteTilt(int column) {
      int best = LEFT;
      int most = payOf(endOf(column, LEFT));
      for (int tilt = STRAIGHT; tilt <= RIGHT; tilt++) {
        int pay = payOf(endOf(column, tilt));
        if (pay > most) {
          most = pay;
          best = tilt;
        }
      }
      return best;
    }

    @Override
    int takeToken(int column, int tilt) {
      box++;
      int pay = Math.min(payOf(endOf(column, tilt)), box);
      box -= pay;
      return pay;
    }

    @Override
    long mixParts(long d) {
      long sum = d;
      for (int column = 0; column < columns; column++) {
        sum = mixed(sum, payOf(column));
      }
      for (int row = 0; row < rows; row++) {
        for (int column = 0; column < columns; column++) {
          sum = mixed(sum, sideOf(row, column));
        }
      }
      return sum;
    }

    // Playing changes no pin and no cup.

    @Override
    void keepParts() {
    }

    @Override
    void restoreParts() {
    }
  }

  private static final class Pusher extends Machine {
    private static final int PLACES = 5;

    private final int strength;
    private final int[] places;
    private final int[] keptPlaces;

    Pusher(int number, int box, int strength) {
      super(number, box);
      this.strength = strength;
      places = new int[PLACES];
      keptPlaces = new int[PLACES];
    }

    boolean hasPlace(int place) {
      return place >= 0 && place < places.length;
    }

    int coinsAt(int place) {
      return hasPlace(place) ? places[place] : 0;
    }

    @Override
    int columns() {
      return 0;
    }

    @Override
    int rows() {
      return 0;
    }

    @Override
    int strength() {
      return strength;
    }

    @Override
    int coins() {
      int sum = 0;
      for (int place = 0; place < places.length; place++) {
        sum += places[place];
      }
      return sum;
    }

    @Override
    int tokensSeen() {
      return box + coins();
    }

    @Override
    int columnIn(int round) {
      return 0;
    }

    @Override
    int favouriteTilt(int column) {
      return Table.STRAIGHT;
    }

    @Override
    int takeToken(int column, int tilt) {
      int moving = 1;
      for (int place = 0; place < places.length; place++) {
        places[place] += moving;
        moving = places[place] > strength ? places[place] / 2 : 0;
        places[place] -= moving;
      }
      return moving;
    }

    @Override
    long mixParts(long d) {
      long sum = d;
      for (int place = 0; place < places.length; place++) {
        sum = mixed(sum, places[place]);
      }
      return sum;
    }

    @Override
    void keepParts() {
      for (int place = 0; place < places.length && place < keptPlaces.length; place++) {
        keptPlaces[place] = places[place];
      }
    }

    @Override
    void restoreParts() {
      for (int place = 0; place < places.length && place < keptPlaces.length; place++) {
        places[place] = keptPlaces[place];
      }
    }
  }

  private static final class Player {
    private final int temper;
    Machine place;
    int purse;
    private int lost;
    private int played;
    private int won;

    private Machine keptPlace;
    private int keptPurse;
    private int keptLost;
    private int keptPlayed;
    private int keptWon;

    Player(int purse, int temper) {
      this.purse = purse;
      this.temper = temper;
    }

    boolean hasToken() {
      return purse > 0;
    }

    int placeNumber() {
      return place == null ? NONE : place.number;
    }

    int fact(int what) {
      switch (what) {
        case 0: return purse;
        case 1: return temper;
        case 2: return placeNumber();
        case 3: return lost;
        case 4: return played;
        default: return won;
      }
    }

    void moveTo(Machine goal) {
      place = goal;
      lost = 0;
    }

    int playAt(Machine machine, int column, int tilt) {
      int pay = machine.takeToken(column, tilt);
      machine.notePlay(pay);
      purse += pay - 1;
      played++;
      won += pay;
      return pay;
    }

    void feel(int pay) {
      lost = pay == 0 ? lost + 1 : 0;
      if (lost >= temper) {
        moveTo(null);
      }
    }

    void keepState() {
      keptPlace = place;
      keptPurse = purse;
      keptLost = lost;
      keptPlayed = played;
      keptWon = won;
    }

    void restoreState() {
      place = keptPlace;
      purse = keptPurse;
      lost = keptLost;
      played = keptPlayed;
      won = keptWon;
    }
  }

  private static final class Mechanic {
    private static final int WEAR_OF_A_ROUND = 10;

    final ArrayList<Machine> row;
    int skill;
    // 0 as long as the first machine of the row has not been begun with.
    int roundsLeft;

    private final ArrayList<Machine> keptRow;
    private int keptRoundsLeft;

    Mechanic() {
      row = new ArrayList<>();
      keptRow = new ArrayList<>();
    }

    boolean expects(Machine machine) {
      for (int i = 0; i < row.size(); i++) {
        if (row.get(i) == machine) {
          return true;
        }
      }
      return false;
    }

    void work() {
      if (row.isEmpty()) {
        return;
      }
      Machine first = row.get(0);
      if (roundsLeft == 0) {
        roundsLeft = Math.max(first.wear / WEAR_OF_A_ROUND + 1 - skill, 1);
      }
      roundsLeft--;
      if (roundsLeft == 0) {
        first.mend();
        row.remove(0);
      }
    }

    void keepState() {
      keptRow.clear();
      for (int i = 0; i < row.size(); i++) {
        keptRow.add(row.get(i));
      }
      keptRoundsLeft = roundsLeft;
    }

    void restoreState() {
      row.clear();
      for (int i = 0; i < keptRow.size(); i++) {
        row.add(keptRow.get(i));
      }
      roundsLeft = keptRoundsLeft;
    }
  }
}
