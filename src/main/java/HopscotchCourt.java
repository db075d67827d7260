/** A hopscotch court, as ../shared/DOC.md promises it. */
public final class HopscotchCourt {
  public static final int NONE = -1;
  public static final int START = -100;
  public static final int SYNTAX_ERROR = -2;
  public static final int VALUE_ERROR = -3;
  public static final int TWICE = -4;
  public static final int TOO_MANY = -5;

  private static final int MIN_ROWS = 2;
  private static final int MAX_ROWS = 10;
  private static final int MAX_SQUARES = 2 * MAX_ROWS;
  private static final int MIN_PLAYERS = 2;
  private static final int MAX_PLAYERS = 6;
  private static final int MAX_REACH = 4;
  private static final int MAX_BALANCE = 9;
  private static final int MAX_CLAIMS = 9;
  private static final int MAX_DRIFT = 9;
  private static final int MAX_POWER = 199;
  private static final int MAX_NAME = 8;
  private static final int MAX_TEXT = 600;
  private static final int MAX_WRITTEN = 300;
  private static final int MAX_UNDO = 8;
  private static final int MAX_TURNS_AHEAD = 300;
  private static final int SLOTS = 2;

  // The numbers of a player stand in one row, in the order in which player() numbers them.
  private static final int REACH = 0;
  private static final int BALANCE = 1;
  private static final int TARGET = 2;
  private static final int CLAIMS = 3;
  private static final int CROWNS = 4;
  private static final int MARKER = 5;
  private static final int OWNED = 6;
  private static final int TURNS = 7;
  private static final int FAULTS = 8;
  private static final int LATEST_FAULT = 9;
  private static final int PLAYER_NUMBERS = 10;

  private static final int CLOSED = 0;
  private static final int SHAKY = 1;
  private static final int FIRM = 2;

  private static final int THROWN_OUT = 1;
  private static final int ON_A_LINE = 2;
  private static final int OFF_TARGET = 3;
  private static final int NO_WAY_OUT = 4;
  private static final int NO_WAY_BACK = 5;

  private static final int REFUSED_NO_CLAIM = -11;
  private static final int REFUSED_OWNED = -12;
  private static final int REFUSED_NOT_OWNED = -13;

  private final Court court;
  // Never kept beyond a call: courts are read into it, and futures are played on it.
  private final Court trial;
  private final Game game;
  private final History history;
  private final Court[] saved;
  private final boolean[] isSaved;
  private final Reader reader;
  private final Writer writer;

  public HopscotchCourt() {
    court = new Court();
    trial = new Court();
    game = new Game();
    history = new History();
    saved = new Court[SLOTS];
    for (int slot = 0; slot < SLOTS; slot++) {
      saved[slot] = new Court();
    }
    isSaved = new boolean[SLOTS];
    reader = new Reader();
    writer = new Writer();
    court.addRow(1);
    court.addRow(1);
    court.addPlayer();
    court.addLetter('a');
    court.addPlayer();
    court.addLetter('b');
  }

  // ---- setup

  public int append(int a, int b, int c, int d, int e) throws IllegalStateException {
    int more = Reader.bytesIn(a) + Reader.bytesIn(b) + Reader.bytesIn(c)
        + Reader.bytesIn(d) + Reader.bytesIn(e);
    if (reader.length + more > MAX_TEXT) {
      throw new IllegalStateException("the text is too long");
    }
    reader.addBytes(a);
    reader.addBytes(b);
    reader.addBytes(c);
    reader.addBytes(d);
    reader.addBytes(e);
    return reader.length;
  }

  public int load() {
    boolean good = reader.readCourt(trial);
    reader.length = 0;
    if (!good) {
      return reader.code;
    }
    history.keep(court);
    court.copyFrom(trial);
    return court.squares;
  }

  public int errorPosition() {
    return reader.errorAt;
  }

  public int count(int what) throws IllegalArgumentException {
    switch (what) {
      case 0: return court.rows;
      case 1: return court.squares;
      case 2: return court.players;
      case 3: return court.drift;
      case 4: return court.turnOf;
      case 5: return court.turns;
      case 6: return court.ownedSquares();
      case 7: return court.lyingMarkers();
      case 8: return court.hops;
      case 9: return court.faultless;
      case 10: return court.richest();
      default: throw new IllegalArgumentException("no such count");
    }
  }

  public int player(int player, int what)
      throws IndexOutOfBoundsException, IllegalArgumentException {
    checkPlayer(player);
    if (what < 0 || what >= PLAYER_NUMBERS) {
      throw new IllegalArgumentException("no such number of a player");
    }
    return what == OWNED ? court.squaresOf(player) : court.get(player, what);
  }

  public int square(int square, int what)
      throws IndexOutOfBoundsException, IllegalArgumentException {
    checkSquare(square);
    switch (what) {
      case 0: return court.rowOf[square];
      case 1: return court.sideOf(square);
      case 2: return court.owners[square];
      case 3: return court.markersOn(square);
      case 4: return court.landings[square];
      default: throw new IllegalArgumentException("no such number of a square");
    }
  }

  public int row(int row) throws IndexOutOfBoundsException {
    checkRow(row);
    return court.firsts[row] + (court.widthOf(row) == 2 ? 100 : 0);
  }

  public int footing(int player, int row) throws IndexOutOfBoundsException {
    checkPlayer(player);
    checkRow(row);
    int usable = court.usableSet(player, court.markedSquares(NONE));
    return court.footingOf(row, usable, court.squaresOf(player));
  }

  // ---- throws

  public int throwFault(int player, int power, int side)
      throws IndexOutOfBoundsException, IllegalArgumentException {
    checkPlayer(player);
    checkThrow(power, side);
    return court.faultOfThrow(player, power, side);
  }

  public int bestThrow(int player) throws IndexOutOfBoundsException {
    checkPlayer(player);
    int target = court.get(player, TARGET);
    return target == 0 ? NONE : 2 * court.leastPower(target) + court.sideOf(target);
  }

  // ---- ways, with the own marker on the target

  public int hopFault(int player) throws IndexOutOfBoundsException {
    checkPlayer(player);
    return game.faultOfHops(court, player);
  }

  public int cost(int player, boolean back) throws IndexOutOfBoundsException {
    checkPlayer(player);
    Way way = game.ownWay(court, player, back);
    return way.cost;
  }

  public int place(int player, boolean back, int hop) throws IndexOutOfBoundsException {
    checkPlayer(player);
    if (hop < 0) {
      throw new IndexOutOfBoundsException("no such hop");
    }
    Way way = game.ownWay(court, player, back);
    if (hop >= way.length) {
      return NONE;
    }
    int row = way.rows[hop];
    return row < 0 ? START : row;
  }

  public int leastReach(int player) throws IndexOutOfBoundsException {
    checkPlayer(player);
    int target = court.get(player, TARGET);
    for (int reach = 1; reach <= MAX_REACH; reach++) {
      if (game.hasBothWays(court, player, target, reach)) {
        return reach;
      }
    }
    return NONE;
  }

  // ---- what would be

  public int playable(int player) throws IndexOutOfBoundsException {
    checkPlayer(player);
    return game.playableSquares(court, player);
  }

  public int bestClaim(int player) throws IndexOutOfBoundsException {
    checkPlayer(player);
    trial.copyFrom(court);
    int best = NONE;
    int leastLeft = 0;
    for (int square = 1; square <= trial.squares; square++) {
      if (trial.owners[square] == NONE) {
        trial.owners[square] = player;
        int left = game.playableByOthers(trial, player);
        trial.owners[square] = NONE;
        if (best == NONE || left < leastLeft) {
          best = square;
          leastLeft = left;
        }
      }
    }
    return best;
  }

  public int turnsToCrown(int player) throws IndexOutOfBoundsException {
    checkPlayer(player);
    trial.copyFrom(court);
    return game.playUntilCrown(trial, player);
  }

  public int firstThrough() {
    trial.copyFrom(court);
    if (game.playUntilCrown(trial, NONE) == NONE) {
      return NONE;
    }
    return trial.turnOf == 0 ? trial.players - 1 : trial.turnOf - 1;
  }

  public double meanCost() {
    int sum = 0;
    int players = 0;
    for (int player = 0; player < court.players; player++) {
      if (game.faultOfHops(court, player) == 0) {
        sum += game.out.cost + game.back.cost;
        players++;
      }
    }
    return players == 0 ? 0.0 : (double) sum / (double) players;
  }

  public float success() {
    return court.turns == 0 ? 0.0f : (float) court.faultless / (float) court.turns;
  }

  // ---- changes

  public int turn(int power, int side) throws IllegalArgumentException {
    checkThrow(power, side);
    history.keep(court);
    return game.playTurn(court, power, side);
  }

  public int pass() {
    history.keep(court);
    court.endTurn(0);
    return court.turnOf;
  }

  public int claim(int player, int square) throws IndexOutOfBoundsException {
    checkPlayer(player);
    checkSquare(square);
    int claims = court.get(player, CLAIMS);
    if (claims == 0) {
      return REFUSED_NO_CLAIM;
    }
    if (court.owners[square] != NONE) {
      return REFUSED_OWNED;
    }
    history.keep(court);
    court.put(player, CLAIMS, claims - 1);
    court.owners[square] = player;
    court.mendTargets();
    return Integer.bitCount(court.squaresOf(player));
  }

  public int release(int square) throws IndexOutOfBoundsException {
    checkSquare(square);
    int owner = court.owners[square];
    if (owner == NONE) {
      return REFUSED_NOT_OWNED;
    }
    history.keep(court);
    court.owners[square] = NONE;
    court.mendTargets();
    return owner;
  }

  public int setDrift(int drift) throws IllegalArgumentException {
    if (drift < -MAX_DRIFT || drift > MAX_DRIFT) {
      throw new IllegalArgumentException("no such drift");
    }
    history.keep(court);
    int before = court.drift;
    court.drift = drift;
    return before + MAX_DRIFT;
  }

  public int setPlayer(int player, int what, int value)
      throws IndexOutOfBoundsException, IllegalArgumentException {
    checkPlayer(player);
    if (what < REACH || what > CLAIMS) {
      throw new IllegalArgumentException("no such number to set");
    }
    if (value < lowestOf(what) || value > highestOf(what, court.squares)) {
      throw new IllegalArgumentException("no such value");
    }
    history.keep(court);
    int before = court.get(player, what);
    court.put(player, what, value);
    court.mendTargets();
    return before;
  }

  public int mark(int player, int square) throws IndexOutOfBoundsException {
    checkPlayer(player);
    if (square != NONE) {
      checkSquare(square);
    }
    history.keep(court);
    int before = court.get(player, MARKER);
    court.put(player, MARKER, square);
    return before;
  }

  public int undo() throws IllegalStateException {
    if (history.size == 0) {
      throw new IllegalStateException("no change to undo");
    }
    history.bringBack(court);
    return history.size;
  }

  public void save(int slot) throws IndexOutOfBoundsException {
    checkSlot(slot);
    saved[slot].copyFrom(court);
    isSaved[slot] = true;
  }

  public int restore(int slot) throws IndexOutOfBoundsException, IllegalStateException {
    checkSlot(slot);
    if (!isSaved[slot]) {
      throw new IllegalStateException("nothing is saved there");
    }
    history.keep(court);
    court.copyFrom(saved[slot]);
    return court.turnOf;
  }

  // ---- texts

  public int writeCourt() {
    writer.write(court);
    return writer.length;
  }

  public int writtenByte(int index) throws IndexOutOfBoundsException {
    if (index < 0 || index >= writer.length) {
      throw new IndexOutOfBoundsException("no such byte");
    }
    return writer.text[index];
  }

  private void checkPlayer(int player) {
    if (player < 0 || player >= court.players) {
      throw new IndexOutOfBoundsException("no such player");
    }
  }

  private void checkSquare(int square) {
    if (square < 1 || square > court.squares) {
      throw new IndexOutOfBoundsException("no such square");
    }
  }

  private void checkRow(int row) {
    if (row < 0 || row >= court.rows) {
      throw new IndexOutOfBoundsException("no such row");
    }
  }

  private static void checkSlot(int slot) {
    if (slot < 0 || slot >= SLOTS) {
      throw new IndexOutOfBoundsException("no such slot");
    }
  }

  private static void checkThrow(int power, int side) {
    if (power < 0 || power > MAX_POWER || side < 0 || side > 1) {
      throw new IllegalArgumentException("no such throw");
    }
  }

  private static int lowestOf(int what) {
    return what == CLAIMS ? 0 : 1;
  }

  private static int highestOf(int what, int squares) {
    switch (what) {
      case REACH: return MAX_REACH;
      case BALANCE: return MAX_BALANCE;
      case CLAIMS: return MAX_CLAIMS;
      default: return squares;
    }
  }

  /** Everything that undo brings back: one object of it can take over all of another one. */
  private static final class Court {
    private int rows;
    private int squares;
    private int players;
    private int drift;
    private int turnOf;
    private int turns;
    private int hops;
    private int faultless;
    // Has one entry more than rows, so that each row ends where the next one would begin.
    private final int[] firsts = new int[MAX_ROWS + 1];
    private final int[] rowOf = new int[MAX_SQUARES + 1];
    private final int[] owners = new int[MAX_SQUARES + 1];
    private final int[] landings = new int[MAX_SQUARES + 1];
    private final int[] numbers = new int[MAX_PLAYERS * PLAYER_NUMBERS];
    private final byte[] names = new byte[MAX_PLAYERS * MAX_NAME];
    private final int[] nameLengths = new int[MAX_PLAYERS];

    private Court() {
      wipe();
    }

    private void wipe() {
      rows = 0;
      squares = 0;
      players = 0;
      drift = 0;
      turnOf = 0;
      turns = 0;
      hops = 0;
      faultless = 0;
      firsts[0] = 1;
      for (int square = 0; square <= MAX_SQUARES; square++) {
        owners[square] = NONE;
        landings[square] = 0;
      }
    }

    private void copyFrom(Court other) {
      rows = other.rows;
      squares = other.squares;
      players = other.players;
      drift = other.drift;
      turnOf = other.turnOf;
      turns = other.turns;
      hops = other.hops;
      faultless = other.faultless;
      System.arraycopy(other.firsts, 0, firsts, 0, firsts.length);
      System.arraycopy(other.rowOf, 0, rowOf, 0, rowOf.length);
      System.arraycopy(other.owners, 0, owners, 0, owners.length);
      System.arraycopy(other.landings, 0, landings, 0, landings.length);
      System.arraycopy(other.numbers, 0, numbers, 0, numbers.length);
      System.arraycopy(other.names, 0, names, 0, names.length);
      System.arraycopy(other.nameLengths, 0, nameLengths, 0, nameLengths.length);
    }

    private void addRow(int width) {
      if (rows >= MAX_ROWS || squares + width > MAX_SQUARES) {
        return;
      }
      for (int side = 0; side < width; side++) {
        squares++;
        rowOf[squares] = rows;
      }
      rows++;
      firsts[rows] = squares + 1;
    }

    private void addPlayer() {
      if (players >= MAX_PLAYERS) {
        return;
      }
      int player = players;
      players++;
      nameLengths[player] = 0;
      for (int what = 0; what < PLAYER_NUMBERS; what++) {
        put(player, what, 0);
      }
      put(player, REACH, 2);
      put(player, BALANCE, 3);
      put(player, TARGET, 1);
      put(player, MARKER, NONE);
    }

    /** Makes the name of the player that was added last longer. */
    private void addLetter(int letter) {
      int player = players - 1;
      if (player >= 0 && nameLengths[player] < MAX_NAME) {
        names[player * MAX_NAME + nameLengths[player]] = (byte) letter;
        nameLengths[player]++;
      }
    }

    private boolean hasSameName(int one, int other) {
      if (nameLengths[one] != nameLengths[other]) {
        return false;
      }
      for (int letter = 0; letter < nameLengths[one]; letter++) {
        if (names[one * MAX_NAME + letter] != names[other * MAX_NAME + letter]) {
          return false;
        }
      }
      return true;
    }

    private int get(int player, int what) {
      return numbers[player * PLAYER_NUMBERS + what];
    }

    private void put(int player, int what, int value) {
      numbers[player * PLAYER_NUMBERS + what] = value;
    }

    private int widthOf(int row) {
      return firsts[row + 1] - firsts[row];
    }

    private int sideOf(int square) {
      return square - firsts[rowOf[square]];
    }

    /** A set of squares; with NONE those that nobody owns. */
    private int squaresOf(int owner) {
      int set = 0;
      for (int square = 1; square <= squares; square++) {
        if (owners[square] == owner) {
          set |= 1 << square;
        }
      }
      return set;
    }

    private int ownedSquares() {
      return squares - Integer.bitCount(squaresOf(NONE));
    }

    private int richest() {
      int best = NONE;
      int most = 0;
      for (int player = 0; player < players; player++) {
        int owned = Integer.bitCount(squaresOf(player));
        if (owned > most) {
          best = player;
          most = owned;
        }
      }
      return best;
    }

    private int lyingMarkers() {
      int lying = 0;
      for (int player = 0; player < players; player++) {
        if (get(player, MARKER) != NONE) {
          lying++;
        }
      }
      return lying;
    }

    private int markersOn(int square) {
      int set = 0;
      for (int player = 0; player < players; player++) {
        if (get(player, MARKER) == square) {
          set |= 1 << player;
        }
      }
      return set;
    }

    /** The squares on which a marker of another player than this one lies. */
    private int markedSquares(int without) {
      int set = 0;
      for (int player = 0; player < players; player++) {
        int marker = get(player, MARKER);
        if (player != without && marker != NONE) {
          set |= 1 << marker;
        }
      }
      return set;
    }

    private boolean isForbidden(int player, int square) {
      return owners[square] != NONE && owners[square] != player;
    }

    private int usableSet(int player, int marked) {
      return (squaresOf(NONE) | squaresOf(player)) & ~marked;
    }

    private int footingOf(int row, int usable, int owned) {
      int inRow = (1 << firsts[row + 1]) - (1 << firsts[row]);
      int usableInRow = inRow & usable;
      if (usableInRow == 0) {
        return CLOSED;
      }
      return Integer.bitCount(usableInRow) == 2 || (usableInRow & owned) != 0 ? FIRM : SHAKY;
    }

    /** The first square from this one on that is not forbidden; 0 if there is none. */
    private int firstAllowed(int player, int from) {
      for (int square = from; square <= squares; square++) {
        if (!isForbidden(player, square)) {
          return square;
        }
      }
      return 0;
    }

    private void mendTargets() {
      for (int player = 0; player < players; player++) {
        int target = get(player, TARGET);
        if (target == 0 || isForbidden(player, target)) {
          int next = firstAllowed(player, target + 1);
          put(player, TARGET, next == 0 ? firstAllowed(player, 1) : next);
        }
      }
    }

    private int faultOfThrow(int player, int power, int side) {
      int far = power + drift;
      int row = far / 10;
      if (far < 0 || row >= rows) {
        return THROWN_OUT;
      }
      if (far % 10 == 0) {
        return ON_A_LINE;
      }
      int square = firsts[row] + (widthOf(row) == 2 ? side : 0);
      return square == get(player, TARGET) ? 0 : OFF_TARGET;
    }

    private int leastPower(int target) {
      return Math.max(0, 10 * rowOf[target] + 1 - drift);
    }

    /** A row that does not exist is ground, on which no landings are counted. */
    private void addLandings(int row, int usable) {
      if (row < 0 || row >= rows) {
        return;
      }
      for (int square = firsts[row]; square < firsts[row + 1]; square++) {
        if ((usable >> square & 1) == 1) {
          landings[square]++;
        }
      }
    }

    private void moveTargetOn(int player) {
      int next = firstAllowed(player, get(player, TARGET) + 1);
      if (next == 0) {
        put(player, CROWNS, get(player, CROWNS) + 1);
        put(player, CLAIMS, Math.min(MAX_CLAIMS, get(player, CLAIMS) + 1));
        next = firstAllowed(player, 1);
      }
      put(player, TARGET, next);
    }

    private void endTurn(int fault) {
      turns++;
      put(turnOf, TURNS, get(turnOf, TURNS) + 1);
      put(turnOf, LATEST_FAULT, fault);
      if (fault != 0) {
        put(turnOf, FAULTS, get(turnOf, FAULTS) + 1);
      }
      turnOf = turnOf + 1 < players ? turnOf + 1 : 0;
    }
  }

  /**
   * The cheapest way in one direction. Its places are numbered along the way, so that one search
   * serves both directions: 0 is the ground where it begins, the goal is the ground where it ends.
   */
  private static final class Way {
    private static final int FAR = 1000000;
    private static final int SHAKES = MAX_BALANCE + 1;

    private final boolean back;
    private int cost;
    private int length;
    private final int[] rows = new int[MAX_ROWS + 1];
    private int goal;
    private int must;
    private int reach;
    private int balance;
    private final int[] footings = new int[MAX_ROWS + 2];
    // Both by the place, and by the shaky landings behind the latest rest.
    private final int[] costsToGoal = new int[(MAX_ROWS + 2) * SHAKES];
    private final int[] hops = new int[(MAX_ROWS + 2) * SHAKES];

    private Way(boolean back) {
      this.back = back;
    }

    private boolean seek(Court court, int player, int target, int reach) {
      cost = NONE;
      length = 0;
      if (target < 1 || target > court.squares) {
        return false;
      }
      this.reach = reach;
      balance = court.get(player, BALANCE);
      goal = court.rows + 1;
      must = back ? court.rows - 1 - court.rowOf[target] : 0;
      layFootings(court, player, target);
      reckon();
      if (costsToGoal[0] >= FAR) {
        return false;
      }
      cost = costsToGoal[0];
      follow();
      return true;
    }

    private int rowAt(int place) {
      return back ? goal - 1 - place : place - 1;
    }

    private void layFootings(Court court, int player, int target) {
      // On the way back the own marker is picked up before its row is reached.
      int own = back ? 0 : 1 << target;
      int usable = court.usableSet(player, court.markedSquares(player) | own);
      int owned = court.squaresOf(player);
      footings[0] = FIRM;
      footings[goal] = FIRM;
      for (int place = 1; place < goal; place++) {
        footings[place] = court.footingOf(rowAt(place), usable, owned);
      }
    }

    private void reckon() {
      costsToGoal[goal * SHAKES] = 0;
      for (int from = goal - 1; from >= 0; from--) {
        if (footings[from] == FIRM) {
          reckonFrom(from, 0);
        } else if (footings[from] == SHAKY) {
          for (int shakes = 1; shakes <= balance && shakes <= from; shakes++) {
            reckonFrom(from, shakes);
          }
        }
      }
    }

    /** Of hops that cost the same the shortest stays, for it is tried first. */
    private void reckonFrom(int from, int shakes) {
      int here = from * SHAKES + shakes;
      costsToGoal[here] = FAR;
      int last = Math.min(from + reach, from < must ? must : goal);
      for (int to = from + 1; to <= last; to++) {
        int landed = footings[to] == FIRM ? 0 : shakes + 1;
        if (footings[to] != CLOSED && landed <= balance) {
          int sum = (to - from) * (to - from) + costsToGoal[to * SHAKES + landed];
          if (sum < costsToGoal[here]) {
            costsToGoal[here] = sum;
            hops[here] = to - from;
          }
        }
      }
    }

    private void follow() {
      int place = 0;
      int shakes = 0;
      while (place < goal && length < rows.length) {
        place += hops[place * SHAKES + shakes];
        shakes = footings[place] == FIRM ? 0 : shakes + 1;
        rows[length] = rowAt(place);
        length++;
      }
    }
  }

  /** What players can and would do on a court. */
  private static final class Game {
    private final Way out = new Way(false);
    private final Way back = new Way(true);

    private Way ownWay(Court court, int player, boolean isBack) {
      Way way = isBack ? back : out;
      way.seek(court, player, court.get(player, TARGET), court.get(player, REACH));
      return way;
    }

    private boolean hasBothWays(Court court, int player, int target, int reach) {
      return out.seek(court, player, target, reach) && back.seek(court, player, target, reach);
    }

    private int faultOfHops(Court court, int player) {
      int target = court.get(player, TARGET);
      int reach = court.get(player, REACH);
      if (target == 0) {
        return NONE;
      }
      if (!out.seek(court, player, target, reach)) {
        return NO_WAY_OUT;
      }
      return back.seek(court, player, target, reach) ? 0 : NO_WAY_BACK;
    }

    private int playableSquares(Court court, int player) {
      int reach = court.get(player, REACH);
      int playable = 0;
      for (int square = 1; square <= court.squares; square++) {
        if (!court.isForbidden(player, square) && hasBothWays(court, player, square, reach)) {
          playable++;
        }
      }
      return playable;
    }

    private int playableByOthers(Court court, int player) {
      int playable = 0;
      for (int other = 0; other < court.players; other++) {
        if (other != player) {
          playable += playableSquares(court, other);
        }
      }
      return playable;
    }

    private int playTurn(Court court, int power, int side) {
      int player = court.turnOf;
      int fault = court.faultOfThrow(player, power, side);
      if (fault != 0) {
        court.put(player, MARKER, NONE);
      } else {
        court.put(player, MARKER, court.get(player, TARGET));
        fault = faultOfHops(court, player);
      }
      if (fault == 0) {
        hopOutAndBack(court, player);
      }
      court.endTurn(fault);
      return fault;
    }

    private void hopOutAndBack(Court court, int player) {
      makeHops(court, player, out);
      court.put(player, MARKER, NONE);
      makeHops(court, player, back);
      court.moveTargetOn(player);
      court.faultless++;
    }

    private static void makeHops(Court court, int player, Way way) {
      int usable = court.usableSet(player, court.markedSquares(NONE));
      for (int hop = 0; hop < way.length; hop++) {
        court.addLandings(way.rows[hop], usable);
      }
      court.hops += way.length;
    }

    /** Plays on until the player (any one for NONE) is through; tells how many turns that took. */
    private int playUntilCrown(Court court, int wanted) {
      for (int turn = 1; turn <= MAX_TURNS_AHEAD; turn++) {
        int player = court.turnOf;
        int crowns = court.get(player, CROWNS);
        int target = court.get(player, TARGET);
        int power = target == 0 ? 0 : court.leastPower(target);
        int side = target == 0 ? 0 : court.sideOf(target);
        playTurn(court, power, side);
        if (court.get(player, CROWNS) > crowns && (wanted == NONE || wanted == player)) {
          return turn;
        }
      }
      return NONE;
    }
  }

  /** The courts before the latest changes, in a ring: an older one gives its place to a new one. */
  private static final class History {
    private final Court[] courts = new Court[MAX_UNDO];
    private int next;
    private int size;

    private History() {
      for (int place = 0; place < MAX_UNDO; place++) {
        courts[place] = new Court();
      }
    }

    private void keep(Court court) {
      courts[next].copyFrom(court);
      next = next + 1 < MAX_UNDO ? next + 1 : 0;
      size = Math.min(MAX_UNDO, size + 1);
    }

    private void bringBack(Court court) {
      next = next > 0 ? next - 1 : MAX_UNDO - 1;
      size--;
      court.copyFrom(courts[next]);
    }
  }

  /** The text buffer, and the reading of it; each part answers whether the reading goes on. */
  private static final class Reader {
    // Beyond every range of the document, and far from an overflow.
    private static final int LARGE = 1000;

    private final byte[] text = new byte[MAX_TEXT];
    private int length;
    private int at;
    private int wordEnd;
    private int value;
    private int code;
    private int errorAt = NONE;

    private static int bytesIn(int four) {
      int bytes = 0;
      for (int shift = 24; shift >= 0; shift -= 8) {
        if ((four >> shift & 255) != 0) {
          bytes++;
        }
      }
      return bytes;
    }

    private void addBytes(int four) {
      for (int shift = 24; shift >= 0; shift -= 8) {
        int next = four >> shift & 255;
        if (next != 0 && length < MAX_TEXT) {
          text[length] = (byte) next;
          length++;
        }
      }
    }

    private boolean readCourt(Court court) {
      errorAt = NONE;
      court.wipe();
      moveTo(0);
      boolean good = readRows(court) && readDrift(court) && readPlayers(court);
      if (good) {
        court.mendTargets();
      }
      return good;
    }

    private boolean readRows(Court court) {
      if (!takeWord("court")) {
        return fail(SYNTAX_ERROR, at);
      }
      for (int row = 0; row <= MAX_ROWS; row++) {
        int width = nextIsWord("one") ? 1 : nextIsWord("two") ? 2 : 0;
        if (width == 0) {
          return row < MIN_ROWS ? fail(SYNTAX_ERROR, at) : readSemicolon();
        }
        if (row == MAX_ROWS) {
          return fail(TOO_MANY, at);
        }
        court.addRow(width);
        moveTo(wordEnd);
      }
      return false;
    }

    private boolean readDrift(Court court) {
      if (!takeWord("drift")) {
        return true;
      }
      boolean left = takeSign('-');
      if (!readNumber(0, MAX_DRIFT)) {
        return false;
      }
      court.drift = left ? -value : value;
      return readSemicolon();
    }

    private boolean readPlayers(Court court) {
      for (int player = 0; player <= MAX_PLAYERS; player++) {
        if (player >= MIN_PLAYERS && at == length) {
          return true;
        }
        if (!nextIsWord("player")) {
          return fail(SYNTAX_ERROR, at);
        }
        if (player == MAX_PLAYERS) {
          return fail(TOO_MANY, at);
        }
        court.addPlayer();
        moveTo(wordEnd);
        if (!readName(court, player) || !readParts(court, player)) {
          return false;
        }
      }
      return false;
    }

    private boolean readName(Court court, int player) {
      if (wordEnd == at || wordEnd - at > MAX_NAME) {
        return fail(SYNTAX_ERROR, at);
      }
      for (int letter = at; letter < wordEnd; letter++) {
        court.addLetter(text[letter]);
      }
      for (int other = 0; other < player; other++) {
        if (court.hasSameName(other, player)) {
          return fail(TWICE, at);
        }
      }
      moveTo(wordEnd);
      return true;
    }

    private boolean readParts(Court court, int player) {
      return readPart(court, player, "reach", REACH)
          && readPart(court, player, "balance", BALANCE)
          && readPart(court, player, "target", TARGET)
          && readPart(court, player, "claims", CLAIMS)
          && readOwned(court, player)
          && readPart(court, player, "marker", MARKER)
          && readSemicolon();
    }

    private boolean readPart(Court court, int player, String word, int what) {
      if (!takeWord(word)) {
        return true;
      }
      if (!readNumber(lowestOf(what), highestOf(what, court.squares))) {
        return false;
      }
      court.put(player, what, value);
      return true;
    }

    private boolean readOwned(Court court, int player) {
      // No square is owned twice, so that one more than there are squares always ends the loop.
      for (int owned = 0; owned <= MAX_SQUARES && takeWord("owns"); owned++) {
        int numberAt = at;
        if (!readNumber(1, court.squares)) {
          return false;
        }
        if (court.owners[value] != NONE) {
          return fail(TWICE, numberAt);
        }
        court.owners[value] = player;
      }
      return true;
    }

    private boolean readNumber(int low, int high) {
      int end = at;
      value = 0;
      while (end < length && text[end] >= '0' && text[end] <= '9') {
        value = Math.min(LARGE, 10 * value + text[end] - '0');
        end++;
      }
      if (end == at) {
        return fail(SYNTAX_ERROR, at);
      }
      if (value < low || value > high) {
        return fail(VALUE_ERROR, at);
      }
      moveTo(end);
      return true;
    }

    private boolean readSemicolon() {
      return takeSign(';') || fail(SYNTAX_ERROR, at);
    }

    private boolean takeSign(int sign) {
      if (at >= length || text[at] != sign) {
        return false;
      }
      moveTo(at + 1);
      return true;
    }

    private boolean takeWord(String word) {
      if (!nextIsWord(word)) {
        return false;
      }
      moveTo(wordEnd);
      return true;
    }

    private boolean nextIsWord(String word) {
      if (wordEnd - at != word.length()) {
        return false;
      }
      for (int letter = 0; letter < word.length(); letter++) {
        if (text[at + letter] != word.charAt(letter)) {
          return false;
        }
      }
      return true;
    }

    /** Moves to the first token from here on, so that every error is told at its first byte. */
    private void moveTo(int position) {
      at = position;
      while (at < length && text[at] == ' ') {
        at++;
      }
      wordEnd = at;
      while (wordEnd < length && text[wordEnd] >= 'a' && text[wordEnd] <= 'z') {
        wordEnd++;
      }
    }

    private boolean fail(int errorCode, int position) {
      code = errorCode;
      errorAt = position;
      return false;
    }
  }

  /** The text that was written last. */
  private static final class Writer {
    private final byte[] text = new byte[MAX_WRITTEN];
    private int length;

    private void write(Court court) {
      length = 0;
      int marked = court.markedSquares(NONE);
      for (int square = 1; square <= court.squares; square++) {
        if (square > 1) {
          add(court.sideOf(square) == 1 ? '/' : ' ');
        }
        addNumber(square);
        if (court.owners[square] != NONE) {
          add('@');
          addName(court, court.owners[square]);
        }
        if ((marked >> square & 1) == 1) {
          add('*');
        }
      }
    }

    private void addName(Court court, int player) {
      for (int letter = 0; letter < court.nameLengths[player]; letter++) {
        add(court.names[player * MAX_NAME + letter]);
      }
    }

    private void addNumber(int number) {
      if (number >= 10) {
        add('0' + number / 10);
      }
      add('0' + number % 10);
    }

    private void add(int sign) {
      if (length < text.length) {
        text[length] = (byte) sign;
        length++;
      }
    }
  }
}
