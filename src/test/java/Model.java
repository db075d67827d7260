import java.math.BigInteger;
import java.util.ArrayDeque;
import java.util.ArrayList;
import java.util.Arrays;
import java.util.Deque;
import java.util.List;
import java.util.TreeSet;

/**
 * The document once more, as plainly as it can be told and with no thought of speed: ways are found
 * by trying all of them. RandomRunsTest compares its answers with those of the class.
 */
public final class Model {
  private static final class Player {
    String name = "";
    int reach = 2;
    int balance = 3;
    int target = 1;
    int claims = 0;
    int crowns = 0;
    int marker = -1;
    int turns = 0;
    int faults = 0;
    int fault = 0;
    TreeSet<Integer> owned = new TreeSet<>();

    Player copy() {
      Player p = new Player();
      p.name = name;
      p.reach = reach;
      p.balance = balance;
      p.target = target;
      p.claims = claims;
      p.crowns = crowns;
      p.marker = marker;
      p.turns = turns;
      p.faults = faults;
      p.fault = fault;
      p.owned = new TreeSet<>(owned);
      return p;
    }
  }

  private static final class State {
    List<List<Integer>> rows = new ArrayList<>();
    List<Player> players = new ArrayList<>();
    int drift;
    int current;
    int turns;
    int hops;
    int good;
    int[] landings = new int[30];

    State copy() {
      State s = new State();
      s.rows = rows;
      for (Player p : players) {
        s.players.add(p.copy());
      }
      s.drift = drift;
      s.current = current;
      s.turns = turns;
      s.hops = hops;
      s.good = good;
      s.landings = landings.clone();
      return s;
    }

    int squares() {
      int n = 0;
      for (List<Integer> row : rows) {
        n += row.size();
      }
      return n;
    }

    int rowOf(int square) {
      for (int r = 0; r < rows.size(); r++) {
        if (rows.get(r).contains(square)) {
          return r;
        }
      }
      throw new AssertionError();
    }

    int ownerOf(int square) {
      for (int p = 0; p < players.size(); p++) {
        if (players.get(p).owned.contains(square)) {
          return p;
        }
      }
      return -1;
    }

    boolean forbidden(Player p, int square) {
      int owner = ownerOf(square);
      return owner >= 0 && players.get(owner) != p;
    }

    boolean marked(int square) {
      return players.stream().anyMatch(p -> p.marker == square);
    }

    List<Integer> usable(Player p, int row) {
      List<Integer> usable = new ArrayList<>();
      for (int square : rows.get(row)) {
        if (!forbidden(p, square) && !marked(square)) {
          usable.add(square);
        }
      }
      return usable;
    }

    int footing(Player p, int row) {
      List<Integer> usable = usable(p, row);
      if (usable.isEmpty()) {
        return 0;
      }
      return usable.size() == 2 || usable.stream().anyMatch(p.owned::contains) ? 2 : 1;
    }

    void mend(Player p) {
      int n = squares();
      if (p.target != 0 && !forbidden(p, p.target)) {
        return;
      }
      for (int k = 1; k <= n; k++) {
        int square = (p.target + k - 1) % n + 1;
        if (!forbidden(p, square)) {
          p.target = square;
          return;
        }
      }
      p.target = 0;
    }
  }

  /** All ways from a row to another one are tried, those with shorter hops first. */
  private static final class Search {
    final State s;
    final Player p;
    final int to;
    final int step;
    final int must;
    int best = Integer.MAX_VALUE;
    List<Integer> way = null;

    Search(State s, Player p, int to, int step, int must) {
      this.s = s;
      this.p = p;
      this.to = to;
      this.step = step;
      this.must = must;
    }

    void go(int at, int shaky, int cost, boolean landed, List<Integer> soFar) {
      if (cost >= best) {
        return;
      }
      if (at == to) {
        if (landed) {
          best = cost;
          way = new ArrayList<>(soFar);
        }
        return;
      }
      for (int far = 1; far <= p.reach; far++) {
        int next = at + step * far;
        if ((to - next) * step < 0) {
          break;
        }
        int footing = next == to ? 2 : s.footing(p, next);
        int nowShaky = footing == 2 ? 0 : shaky + 1;
        if (footing == 0 || nowShaky > p.balance) {
          continue;
        }
        soFar.add(next);
        go(next, nowShaky, cost + far * far, landed || next == must, soFar);
        soFar.remove(soFar.size() - 1);
      }
    }
  }

  private static Search search(State original, int player, boolean back) {
    State s = original.copy();
    Player p = s.players.get(player);
    int home = s.rows.size();
    p.marker = back ? -1 : p.target;
    Search search;
    if (back) {
      int must = s.rowOf(p.target) + 1;
      search = new Search(s, p, -1, -1, must);
      search.go(home, 0, 0, must == home, new ArrayList<>());
    } else {
      search = new Search(s, p, home, 1, -1);
      search.go(-1, 0, 0, true, new ArrayList<>());
    }
    return search;
  }

  private static int hopFault(State s, int player) {
    if (s.players.get(player).target == 0) {
      return -1;
    }
    if (search(s, player, false).way == null) {
      return 4;
    }
    return search(s, player, true).way == null ? 5 : 0;
  }

  private static int throwFault(State s, Player p, int power, int side) {
    int f = power + s.drift;
    if (f < 0 || f >= 10 * s.rows.size()) {
      return 1;
    }
    if (f % 10 == 0) {
      return 2;
    }
    List<Integer> row = s.rows.get(f / 10);
    int square = row.get(row.size() == 1 ? 0 : side);
    return square == p.target ? 0 : 3;
  }

  private static int bestThrow(State s, int player) {
    Player p = s.players.get(player);
    if (p.target == 0) {
      return -1;
    }
    int side = s.rows.get(s.rowOf(p.target)).indexOf(p.target);
    for (int power = 0; power <= 199; power++) {
      if (throwFault(s, p, power, side) == 0) {
        return 2 * power + side;
      }
    }
    return -1;
  }

  private static int turn(State s, int power, int side) {
    Player p = s.players.get(s.current);
    p.marker = -1;
    int fault = throwFault(s, p, power, side);
    if (fault == 0) {
      p.marker = p.target;
      fault = hopFault(s, s.current);
    }
    if (fault == 0) {
      hop(s, p);
    }
    finish(s, fault);
    return fault;
  }

  private static void hop(State s, Player p) {
    List<Integer> out = search(s, s.current, false).way;
    List<Integer> back = search(s, s.current, true).way;
    int must = s.rowOf(p.target) + 1;
    for (int row : out) {
      land(s, p, row);
    }
    if (must == s.rows.size()) {
      p.marker = -1;
    }
    for (int row : back) {
      land(s, p, row);
      if (row == must) {
        p.marker = -1;
      }
    }
    s.good++;
    do {
      p.target++;
    } while (p.target <= s.squares() && s.forbidden(p, p.target));
    if (p.target > s.squares()) {
      p.crowns++;
      p.claims += p.claims < 9 ? 1 : 0;
      p.target = 0;
      s.mend(p);
    }
  }

  private static void land(State s, Player p, int row) {
    s.hops++;
    if (row >= 0 && row < s.rows.size()) {
      for (int square : s.usable(p, row)) {
        s.landings[square]++;
      }
    }
  }

  private static void finish(State s, int fault) {
    Player p = s.players.get(s.current);
    p.turns++;
    p.fault = fault;
    p.faults += fault == 0 ? 0 : 1;
    s.turns++;
    s.current = (s.current + 1) % s.players.size();
  }

  private static int playable(State original, int player) {
    int n = 0;
    for (int square = 1; square <= original.squares(); square++) {
      State s = original.copy();
      Player p = s.players.get(player);
      p.target = square;
      if (!s.forbidden(p, square) && hopFault(s, player) == 0) {
        n++;
      }
    }
    return n;
  }

  /** The turn in which each player has its next crown; 0 if none of the first 300. */
  private static int[] crownTurns(State original) {
    State s = original.copy();
    int[] turns = new int[s.players.size()];
    for (int turn = 1; turn <= 300; turn++) {
      int player = s.current;
      int best = bestThrow(s, player);
      turn(s, best < 0 ? 0 : best / 2, best < 0 ? 0 : best % 2);
      if (turns[player] == 0 && s.players.get(player).crowns > original.players.get(player).crowns) {
        turns[player] = turn;
      }
    }
    return turns;
  }

  // ---- the reading of a text

  private static final class Bad extends RuntimeException {
    private static final long serialVersionUID = 1L;
    final int code;
    final int at;

    Bad(int code, int at) {
      this.code = code;
      this.at = at;
    }
  }

  private static final class Parser {
    final String text;
    int at = 0;

    Parser(String text) {
      this.text = text;
    }

    String peek() {
      while (text.startsWith(" ", at)) {
        at++;
      }
      for (String kind : new String[] {"az", "09"}) {
        int end = at;
        while (end < text.length() && text.charAt(end) >= kind.charAt(0) && text.charAt(end) <= kind.charAt(1)) {
          end++;
        }
        if (end > at) {
          return text.substring(at, end);
        }
      }
      return at < text.length() ? text.substring(at, at + 1) : "";
    }

    boolean isNext(String token) {
      return peek().equals(token);
    }

    boolean skip(String token) {
      if (isNext(token)) {
        at += token.length();
        return true;
      }
      return false;
    }

    void need(String token) {
      if (!skip(token)) {
        throw new Bad(-2, at);
      }
    }

    int number(int low, int high, State s) {
      String token = peek();
      if (!token.matches("[0-9]+")) {
        throw new Bad(-2, at);
      }
      BigInteger n = new BigInteger(token);
      if (n.compareTo(BigInteger.valueOf(low)) < 0 || n.compareTo(BigInteger.valueOf(high)) > 0) {
        throw new Bad(-3, at);
      }
      if (s != null && s.ownerOf(n.intValue()) >= 0) {
        throw new Bad(-4, at);
      }
      at += token.length();
      return n.intValue();
    }

    State court() {
      State s = new State();
      need("court");
      while (s.rows.size() < 2 || !isNext(";")) {
        int width = isNext("one") ? 1 : isNext("two") ? 2 : 0;
        if (width == 0) {
          throw new Bad(-2, at);
        }
        if (s.rows.size() == 10) {
          throw new Bad(-5, at);
        }
        skip(peek());
        int first = s.squares() + 1;
        s.rows.add(width == 1 ? List.of(first) : List.of(first, first + 1));
      }
      need(";");
      if (skip("drift")) {
        int sign = skip("-") ? -1 : 1;
        s.drift = sign * number(0, 9, null);
        need(";");
      }
      while (s.players.size() < 2 || !isNext("")) {
        if (!isNext("player")) {
          throw new Bad(-2, at);
        }
        if (s.players.size() == 6) {
          throw new Bad(-5, at);
        }
        player(s);
      }
      for (Player p : s.players) {
        s.mend(p);
      }
      return s;
    }

    void player(State s) {
      need("player");
      Player p = new Player();
      p.name = peek();
      if (!p.name.matches("[a-z]{1,8}")) {
        throw new Bad(-2, at);
      }
      if (s.players.stream().anyMatch(q -> q.name.equals(p.name))) {
        throw new Bad(-4, at);
      }
      at += p.name.length();
      s.players.add(p);
      int n = s.squares();
      p.reach = skip("reach") ? number(1, 4, null) : p.reach;
      p.balance = skip("balance") ? number(1, 9, null) : p.balance;
      p.target = skip("target") ? number(1, n, null) : p.target;
      p.claims = skip("claims") ? number(0, 9, null) : p.claims;
      while (skip("owns")) {
        p.owned.add(number(1, n, s));
      }
      p.marker = skip("marker") ? number(1, n, null) : p.marker;
      need(";");
    }
  }

  // ---- the face

  private State s = new Parser("court one one;player a;player b;").court();
  private final Deque<State> before = new ArrayDeque<>();
  private final State[] saved = new State[2];
  private final StringBuilder buffer = new StringBuilder();
  private int errorAt = -1;
  private String written = "";

  public int append(int a, int b, int c, int d, int e) {
    StringBuilder more = new StringBuilder();
    for (int four : new int[] {a, b, c, d, e}) {
      for (int k = 3; k >= 0; k--) {
        int next = four >>> 8 * k & 0xff;
        if (next != 0) {
          more.append((char) next);
        }
      }
    }
    if (buffer.length() + more.length() > 600) {
      throw new IllegalStateException();
    }
    return buffer.append(more).length();
  }

  public int load() {
    String text = buffer.toString();
    buffer.setLength(0);
    try {
      State next = new Parser(text).court();
      errorAt = -1;
      keep();
      s = next;
      return s.squares();
    } catch (Bad bad) {
      errorAt = bad.at;
      return bad.code;
    }
  }

  public int errorPosition() {
    return errorAt;
  }

  public int count(int what) {
    int owned = 0;
    int lying = 0;
    int best = -1;
    for (int p = 0; p < s.players.size(); p++) {
      Player player = s.players.get(p);
      owned += player.owned.size();
      lying += player.marker > 0 ? 1 : 0;
      if (player.owned.size() > (best < 0 ? 0 : s.players.get(best).owned.size())) {
        best = p;
      }
    }
    if (what < 0 || what > 10) {
      throw new IllegalArgumentException();
    }
    int[] counts = {s.rows.size(), s.squares(), s.players.size(), s.drift, s.current, s.turns, owned,
        lying, s.hops, s.good, best};
    return counts[what];
  }

  public int player(int player, int what) {
    Player p = playerOf(player);
    if (what < 0 || what > 9) {
      throw new IllegalArgumentException();
    }
    int set = p.owned.stream().mapToInt(square -> 1 << square).sum();
    int[] numbers = {p.reach, p.balance, p.target, p.claims, p.crowns, p.marker, set, p.turns, p.faults,
        p.fault};
    return numbers[what];
  }

  public int square(int square, int what) {
    needSquare(square);
    switch (what) {
      case 0: return s.rowOf(square);
      case 1: return s.rows.get(s.rowOf(square)).indexOf(square);
      case 2: return s.ownerOf(square);
      case 3:
        int set = 0;
        for (int p = 0; p < s.players.size(); p++) {
          set += s.players.get(p).marker == square ? 1 << p : 0;
        }
        return set;
      case 4: return s.landings[square];
      default: throw new IllegalArgumentException();
    }
  }

  public int row(int row) {
    needRow(row);
    return s.rows.get(row).get(0) + 100 * (s.rows.get(row).size() - 1);
  }

  public int footing(int player, int row) {
    Player p = playerOf(player);
    needRow(row);
    return s.footing(p, row);
  }

  public int throwFault(int player, int power, int side) {
    Player p = playerOf(player);
    needThrow(power, side);
    return throwFault(s, p, power, side);
  }

  public int bestThrow(int player) {
    playerOf(player);
    return bestThrow(s, player);
  }

  public int hopFault(int player) {
    playerOf(player);
    return hopFault(s, player);
  }

  public int cost(int player, boolean back) {
    if (playerOf(player).target == 0) {
      return -1;
    }
    Search search = search(s, player, back);
    return search.way == null ? -1 : search.best;
  }

  public int place(int player, boolean back, int hop) {
    Player p = playerOf(player);
    if (hop < 0) {
      throw new IndexOutOfBoundsException();
    }
    List<Integer> way = p.target == 0 ? null : search(s, player, back).way;
    if (way == null || hop >= way.size()) {
      return -1;
    }
    return way.get(hop) == -1 ? -100 : way.get(hop);
  }

  public int leastReach(int player) {
    playerOf(player);
    State other = s.copy();
    for (int reach = 1; reach <= 4; reach++) {
      other.players.get(player).reach = reach;
      if (hopFault(other, player) == 0) {
        return reach;
      }
    }
    return -1;
  }

  public int playable(int player) {
    playerOf(player);
    return playable(s, player);
  }

  public int bestClaim(int player) {
    playerOf(player);
    int best = -1;
    int most = -1;
    for (int square = 1; square <= s.squares(); square++) {
      if (s.ownerOf(square) >= 0) {
        continue;
      }
      State other = s.copy();
      other.players.get(player).owned.add(square);
      int lost = 0;
      for (int p = 0; p < s.players.size(); p++) {
        lost += p == player ? 0 : playable(s, p) - playable(other, p);
      }
      if (lost > most) {
        most = lost;
        best = square;
      }
    }
    return best;
  }

  public int turnsToCrown(int player) {
    playerOf(player);
    int turn = crownTurns(s)[player];
    return turn == 0 ? -1 : turn;
  }

  public int firstThrough() {
    int[] turns = crownTurns(s);
    int least = Arrays.stream(turns).filter(turn -> turn > 0).min().orElse(-1);
    for (int p = 0; p < turns.length; p++) {
      if (turns[p] == least) {
        return p;
      }
    }
    return -1;
  }

  public double meanCost() {
    List<Integer> costs = new ArrayList<>();
    for (int p = 0; p < s.players.size(); p++) {
      if (hopFault(s, p) == 0) {
        costs.add(search(s, p, false).best + search(s, p, true).best);
      }
    }
    int sum = costs.stream().mapToInt(cost -> cost).sum();
    return costs.isEmpty() ? 0 : (double) sum / costs.size();
  }

  public float success() {
    return s.turns == 0 ? 0 : (float) s.good / (float) s.turns;
  }

  public int turn(int power, int side) {
    needThrow(power, side);
    keep();
    return turn(s, power, side);
  }

  public int pass() {
    keep();
    finish(s, 0);
    return s.current;
  }

  public int claim(int player, int square) {
    Player p = playerOf(player);
    needSquare(square);
    if (p.claims == 0) {
      return -11;
    }
    if (s.ownerOf(square) >= 0) {
      return -12;
    }
    keep();
    p.claims--;
    p.owned.add(square);
    for (Player q : s.players) {
      s.mend(q);
    }
    return p.owned.size();
  }

  public int release(int square) {
    needSquare(square);
    int owner = s.ownerOf(square);
    if (owner < 0) {
      return -13;
    }
    keep();
    s.players.get(owner).owned.remove(square);
    for (Player q : s.players) {
      if (q.target == 0) {
        s.mend(q);
      }
    }
    return owner;
  }

  public int setDrift(int drift) {
    if (drift < -9 || drift > 9) {
      throw new IllegalArgumentException();
    }
    keep();
    int old = s.drift;
    s.drift = drift;
    return old + 9;
  }

  public int setPlayer(int player, int what, int value) {
    Player p = playerOf(player);
    int[] low = {1, 1, 1, 0};
    int[] high = {4, 9, s.squares(), 9};
    if (what < 0 || what > 3 || value < low[what] || value > high[what]) {
      throw new IllegalArgumentException();
    }
    keep();
    int old = player(player, what);
    switch (what) {
      case 0: p.reach = value; break;
      case 1: p.balance = value; break;
      case 2: p.target = value; s.mend(p); break;
      default: p.claims = value; break;
    }
    return old;
  }

  public int mark(int player, int square) {
    Player p = playerOf(player);
    if (square != -1) {
      needSquare(square);
    }
    keep();
    int old = p.marker;
    p.marker = square;
    return old;
  }

  public int undo() {
    if (before.isEmpty()) {
      throw new IllegalStateException();
    }
    s = before.removeLast();
    return before.size();
  }

  public void save(int slot) {
    needSlot(slot);
    saved[slot] = s.copy();
  }

  public int restore(int slot) {
    needSlot(slot);
    if (saved[slot] == null) {
      throw new IllegalStateException();
    }
    keep();
    s = saved[slot].copy();
    return s.current;
  }

  public int writeCourt() {
    List<String> rows = new ArrayList<>();
    for (List<Integer> row : s.rows) {
      List<String> squares = new ArrayList<>();
      for (int square : row) {
        int owner = s.ownerOf(square);
        squares.add(square + (owner < 0 ? "" : "@" + s.players.get(owner).name) + (s.marked(square) ? "*" : ""));
      }
      rows.add(String.join("/", squares));
    }
    written = String.join(" ", rows);
    return written.length();
  }

  public int writtenByte(int index) {
    if (index < 0 || index >= written.length()) {
      throw new IndexOutOfBoundsException();
    }
    return written.charAt(index);
  }

  /** The present state becomes the one to come back to; changes go on with the very same objects. */
  private void keep() {
    before.addLast(s.copy());
    if (before.size() > 8) {
      before.removeFirst();
    }
  }

  private Player playerOf(int player) {
    if (player < 0 || player >= s.players.size()) {
      throw new IndexOutOfBoundsException();
    }
    return s.players.get(player);
  }

  private void needSquare(int square) {
    if (square < 1 || square > s.squares()) {
      throw new IndexOutOfBoundsException();
    }
  }

  private void needRow(int row) {
    if (row < 0 || row >= s.rows.size()) {
      throw new IndexOutOfBoundsException();
    }
  }

  private static void needSlot(int slot) {
    if (slot < 0 || slot > 1) {
      throw new IndexOutOfBoundsException();
    }
  }

  private static void needThrow(int power, int side) {
    if (power < 0 || power > 199 || side < 0 || side > 1) {
      throw new IllegalArgumentException();
    }
  }
}
