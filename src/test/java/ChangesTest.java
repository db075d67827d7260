/** Promises 22 to 31. */
public final class ChangesTest {
  private static final Check check = new Check();

  public static void main(String[] args) {
    aTurnWithoutFault();
    aThrowWithFaultTakesTheMarkerAway();
    hopsWithFaultLeaveTheMarker();
    landingsAreCountedOnUsableSquares();
    theNextTargetIsNotForbidden();
    throughTheCourt();
    turnRefusesWrongThrows();
    passEndsTheTurn();
    claimOwnsASquare();
    claimMovesTargets();
    claimRefuses();
    releaseFreesASquare();
    setDriftSetsIt();
    setPlayerSetsItsNumbers();
    setPlayerRefusesWrongValues();
    markLaysTheMarker();
    undoBringsBack();
    undoCountsChanges();
    undoKnowsEightChanges();
    undoLeavesTheTexts();
    saveAndRestore();
    restoreIsAChange();
    check.end();
  }

  private static void counts(String when, HopscotchCourt x, int... due) {
    for (int what = 0; what < due.length; what++) {
      check.due(when + " count " + what, x.count(what), due[what]);
    }
  }

  private static void numbers(String when, HopscotchCourt x, int player, int... due) {
    for (int what = 0; what < due.length; what++) {
      check.due(when + " player " + player + " " + what, x.player(player, what), due[what]);
    }
  }

  private static void landings(String when, HopscotchCourt x, int... due) {
    for (int square = 1; square <= due.length; square++) {
      check.due(when + " landings on " + square, x.square(square, 4), due[square - 1]);
    }
  }

  private static void aTurnWithoutFault() {
    HopscotchCourt x = Courts.of("court one two one;player a;player b;");
    check.due("22 turn", x.turn(1, 0), 0);
    counts("22", x, 3, 4, 2, 0, 1, 1, 0, 0, 7, 1, -1);
    numbers("22", x, 0, 2, 3, 2, 0, 0, -1, 0, 1, 0, 0);
    numbers("22", x, 1, 2, 3, 1, 0, 0, -1, 0, 0, 0, 0);
    landings("22", x, 1, 2, 2, 2);
    check.due("22 turn of b", x.turn(9, 1), 0);
    counts("22", x, 3, 4, 2, 0, 0, 2, 0, 0, 14, 2, -1);
    landings("22", x, 2, 4, 4, 4);
    // a on the left square of row 1: the right one is a shaky landing on the way out.
    check.due("22 next turn", x.turn(11, 0), 0);
    landings("22", x, 4, 5, 6, 6);
    check.due("22 hops", x.count(8), 22);
    check.due("22 target", x.player(0, 2), 3);
  }

  private static void aThrowWithFaultTakesTheMarkerAway() {
    int[] powers = {199, 0, 11, 10, 30};
    int[] faults = {1, 2, 3, 2, 1};
    for (int k = 0; k < powers.length; k++) {
      HopscotchCourt x = Courts.of("court one two one;player a marker 3;player b marker 3;player c;");
      check.due("22 power " + powers[k], x.turn(powers[k], 0), faults[k]);
      numbers("22", x, 0, 2, 3, 1, 0, 0, -1, 0, 1, 1, faults[k]);
      counts("22", x, 3, 4, 3, 0, 1, 1, 0, 1, 0, 0, -1);
      landings("22", x, 0, 0, 0, 0);
    }
    HopscotchCourt y = Courts.of("court one one;player a owns 1;player b owns 2;player c marker 1;");
    y.pass();
    y.pass();
    check.due("22 without a target", y.turn(1, 0), 3);
    check.due("22 the marker is away", y.player(2, 5), -1);
    check.due("22 the target is none", y.player(2, 2), 0);
  }

  private static void hopsWithFaultLeaveTheMarker() {
    HopscotchCourt x = Courts.of("court one one one one;player a reach 1 marker 3;player b reach 3 balance 9 target 3;");
    check.due("22 no way out", x.turn(1, 0), 4);
    numbers("22", x, 0, 1, 3, 1, 0, 0, 1, 0, 1, 1, 4);
    x.mark(0, 4);
    check.due("22 no way back", x.turn(21, 0), 5);
    numbers("22", x, 1, 3, 9, 3, 0, 0, 3, 0, 1, 1, 5);
    counts("22", x, 4, 4, 2, 0, 0, 2, 0, 2, 0, 0, -1);
    landings("22", x, 0, 0, 0, 0);
    check.due("22 the next fault", x.turn(0, 0), 2);
    numbers("22", x, 0, 1, 3, 1, 0, 0, -1, 0, 2, 2, 2);
    check.due("22 now it is free", x.turn(21, 0), 0);
    numbers("22", x, 1, 3, 9, 4, 0, 0, -1, 0, 2, 1, 0);
    // Out by 0, 1, 3, home, and back by 3, 2, 1, 0, start.
    landings("22", x, 2, 2, 1, 2);
    check.due("22 hops", x.count(8), 9);
  }

  private static void landingsAreCountedOnUsableSquares() {
    HopscotchCourt x = Courts.of("court two two two;player a;player b owns 3;player c marker 6;");
    check.due("22 turn", x.turn(1, 0), 0);
    // On the own square only behind its pick-up; never on forbidden ones, or beside a marker.
    landings("22", x, 1, 2, 0, 2, 2, 0);
    check.due("22 turn of b", x.turn(5, 0), 0);
    landings("22", x, 2, 4, 2, 4, 4, 0);
    check.due("22 hops", x.count(8), 16);
  }

  private static void theNextTargetIsNotForbidden() {
    HopscotchCourt x = Courts.of("court two two;player a;player b owns 2 owns 3;");
    check.due("22 turn", x.turn(1, 0), 0);
    check.due("22 the next but two", x.player(0, 2), 4);
    check.due("22 not through", x.player(0, 4), 0);
    check.due("22 b", x.turn(1, 0), 0);
    check.due("22 an own square is none to skip", x.player(1, 2), 2);
  }

  private static void throughTheCourt() {
    HopscotchCourt x = Courts.of("court one one;player a target 2 claims 8;player b target 2;");
    check.due("22 turn", x.turn(11, 0), 0);
    numbers("22 through", x, 0, 2, 3, 1, 9, 1, -1, 0, 1, 0, 0);
    x.pass();
    x.setPlayer(0, 2, 2);
    check.due("22 turn", x.turn(11, 1), 0);
    numbers("22 through again", x, 0, 2, 3, 1, 9, 2, -1, 0, 2, 0, 0);
    HopscotchCourt y = Courts.of("court two two;player a target 3;player b owns 1 owns 4;");
    check.due("22 turn", y.turn(11, 0), 0);
    numbers("22 the first that is not forbidden", y, 0, 2, 3, 2, 1, 1, -1, 0, 1, 0, 0);
    HopscotchCourt z = Courts.of("court one one;player a reach 3 target 2;player b owns 1;");
    check.due("22 turn", z.turn(11, 0), 0);
    numbers("22 the only one", z, 0, 3, 3, 2, 1, 1, -1, 0, 1, 0, 0);
  }

  private static void turnRefusesWrongThrows() {
    HopscotchCourt x = Courts.of("court one one;player a marker 1;player b;");
    int[] powers = {-1, 200, 1, 1, Integer.MIN_VALUE, Integer.MAX_VALUE};
    int[] sides = {0, 0, -1, 2, 0, 1};
    for (int k = 0; k < powers.length; k++) {
      int power = powers[k];
      int side = sides[k];
      check.dueArgument("22 power " + power + " side " + side, () -> x.turn(power, side));
    }
    counts("22", x, 2, 2, 2, 0, 0, 0, 0, 1, 0, 0, -1);
    check.due("22 none was a change", x.undo(), 0);
    check.due("22 the largest", x.turn(199, 1), 1);
  }

  private static void passEndsTheTurn() {
    HopscotchCourt x = Courts.of("court one one;player a marker 1;player b;player c;");
    x.turn(0, 0);
    x.mark(0, 2);
    check.due("23 b passes", x.pass(), 2);
    check.due("23 c passes", x.pass(), 0);
    check.due("23 a passes", x.pass(), 1);
    numbers("23", x, 0, 2, 3, 1, 0, 0, 2, 0, 2, 1, 0);
    numbers("23", x, 1, 2, 3, 1, 0, 0, -1, 0, 1, 0, 0);
    counts("23", x, 2, 2, 3, 0, 1, 4, 0, 1, 0, 0, -1);
  }

  private static void claimOwnsASquare() {
    HopscotchCourt x = Courts.of("court one two;player a claims 2;player b claims 1 marker 3;");
    check.due("24 the first", x.claim(0, 3), 1);
    check.due("24 the owner", x.square(3, 2), 0);
    check.due("24 the marker stays", x.player(1, 5), 3);
    check.due("24 at any time", x.claim(1, 2), 1);
    check.due("24 the second", x.claim(0, 1), 2);
    numbers("24", x, 0, 2, 3, 1, 0, 0, -1, 1 << 1 | 1 << 3, 0, 0, 0);
    numbers("24", x, 1, 2, 3, 2, 0, 0, 3, 1 << 2, 0, 0, 0);
    check.due("24 the turn stays", x.count(4), 0);
  }

  private static void claimMovesTargets() {
    HopscotchCourt x = Courts.of("court two two;player a target 3 claims 4;player b target 3;"
        + "player c target 4;player d target 1;");
    x.claim(0, 3);
    check.due("24 its own stays", x.player(0, 2), 3);
    check.due("24 the next one", x.player(1, 2), 4);
    check.due("24 not another", x.player(2, 2), 4);
    x.claim(0, 4);
    check.due("24 from 1 on", x.player(1, 2), 1);
    check.due("24 no crown by this", x.player(1, 4), 0);
    x.claim(0, 1);
    check.due("24 the last one", x.player(1, 2), 2);
    check.due("24 the last one of d", x.player(3, 2), 2);
    x.claim(0, 2);
    check.due("24 none", x.player(1, 2), 0);
    check.due("24 none of c", x.player(2, 2), 0);
    check.due("24 its own still", x.player(0, 2), 3);
  }

  private static void claimRefuses() {
    HopscotchCourt x = Courts.of("court one one;player a claims 1 owns 1;player b;");
    check.due("24 no claim", x.claim(1, 2), -11);
    check.due("24 both reasons", x.claim(1, 1), -11);
    check.due("24 owned by itself", x.claim(0, 1), -12);
    x.setPlayer(1, 3, 1);
    check.due("24 owned by another", x.claim(1, 1), -12);
    check.dueIndex("24 player 2", () -> x.claim(2, 2));
    check.dueIndex("24 player -1", () -> x.claim(-1, 2));
    check.dueIndex("24 square 0", () -> x.claim(0, 0));
    check.dueIndex("24 square 3", () -> x.claim(0, 3));
    check.dueIndex("24 square -1", () -> x.claim(0, -1));
    check.due("24 claims stay", x.player(0, 3), 1);
    check.due("24 no change", x.undo(), 1);
  }

  private static void releaseFreesASquare() {
    HopscotchCourt x = Courts.of("court two one;player a claims 1 owns 1 owns 3;player b target 1 owns 2;player c;");
    check.due("25 no target", x.player(2, 2), 0);
    check.due("25 target", x.player(1, 2), 2);
    check.due("25 the owner before", x.release(3), 0);
    check.due("25 nobody now", x.square(3, 2), -1);
    check.due("25 no claim for it", x.player(0, 3), 1);
    check.due("25 a target that was 0", x.player(2, 2), 3);
    check.due("25 targets stay", x.player(1, 2), 2);
    check.due("25 again", x.release(3), -13);
    check.due("25 another", x.release(2), 1);
    check.due("25 targets stay", x.player(2, 2), 3);
    check.dueIndex("25 square 0", () -> x.release(0));
    check.dueIndex("25 square 4", () -> x.release(4));
    check.dueIndex("25 square -1", () -> x.release(-1));
    check.due("25 two changes", x.undo(), 2);
  }

  private static void setDriftSetsIt() {
    HopscotchCourt x = new HopscotchCourt();
    check.due("26 drift 9", x.setDrift(9), 9);
    check.due("26 drift -9", x.setDrift(-9), 18);
    check.due("26 drift 0", x.setDrift(0), 0);
    check.due("26 drift 3", x.setDrift(3), 9);
    check.dueArgument("26 drift 10", () -> x.setDrift(10));
    check.dueArgument("26 drift -10", () -> x.setDrift(-10));
    check.dueArgument("26 drift least", () -> x.setDrift(Integer.MIN_VALUE));
    check.due("26 it stays", x.count(3), 3);
    check.due("26 throws mind it", x.throwFault(0, 7, 0), 2);
  }

  private static void setPlayerSetsItsNumbers() {
    HopscotchCourt x = Courts.of("court two two;player a;player b owns 4;player c owns 2;");
    check.due("27 reach", x.setPlayer(0, 0, 4), 2);
    check.due("27 reach least", x.setPlayer(0, 0, 1), 4);
    check.due("27 balance", x.setPlayer(0, 1, 9), 3);
    check.due("27 balance least", x.setPlayer(0, 1, 1), 9);
    check.due("27 claims", x.setPlayer(0, 3, 9), 0);
    check.due("27 claims least", x.setPlayer(0, 3, 0), 9);
    check.due("27 target", x.setPlayer(0, 2, 3), 1);
    check.due("27 target set", x.player(0, 2), 3);
    check.due("27 a forbidden target", x.setPlayer(0, 2, 2), 3);
    check.due("27 becomes the next", x.player(0, 2), 3);
    check.due("27 the last one", x.setPlayer(0, 2, 4), 3);
    check.due("27 becomes the first", x.player(0, 2), 1);
    check.due("27 an own one", x.setPlayer(1, 2, 4), 1);
    check.due("27 stays", x.player(1, 2), 4);
    numbers("27", x, 0, 1, 1, 1, 0, 0, -1, 0, 0, 0, 0);
    HopscotchCourt y = Courts.of("court one one;player a owns 1;player b owns 2;player c;");
    check.due("27 no target", y.setPlayer(2, 2, 2), 0);
    check.due("27 stays none", y.player(2, 2), 0);
  }

  private static void setPlayerRefusesWrongValues() {
    HopscotchCourt x = new HopscotchCourt();
    int[] whats = {0, 0, 1, 1, 2, 2, 3, 3, 2, 4, 5, -1, Integer.MAX_VALUE, Integer.MIN_VALUE};
    int[] values = {0, 5, 0, 10, 0, 3, -1, 10, -1, 1, 1, 1, 1, 1};
    for (int k = 0; k < whats.length; k++) {
      int what = whats[k];
      int value = values[k];
      check.dueArgument("27 what " + what + " value " + value, () -> x.setPlayer(1, what, value));
      check.dueIndex("27 and player 2", () -> x.setPlayer(2, what, value));
    }
    check.dueIndex("27 player -1", () -> x.setPlayer(-1, 0, 1));
    numbers("27", x, 1, 2, 3, 1, 0, 0, -1, 0, 0, 0, 0);
    check.dueState("27 no change", () -> x.undo());
  }

  private static void markLaysTheMarker() {
    HopscotchCourt x = Courts.of("court one two;player a;player b owns 3;");
    check.due("28 lay", x.mark(0, 3), -1);
    check.due("28 there", x.player(0, 5), 3);
    check.due("28 on a forbidden one", x.square(3, 3), 1);
    check.due("28 another", x.mark(1, 3), -1);
    check.due("28 both", x.square(3, 3), 3);
    check.due("28 elsewhere", x.mark(0, 1), 3);
    check.due("28 away", x.mark(0, HopscotchCourt.NONE), 1);
    check.due("28 away again", x.mark(0, HopscotchCourt.NONE), -1);
    check.due("28 markers", x.count(7), 1);
    check.due("28 the target stays", x.player(0, 2), 1);
    check.dueIndex("28 square 0", () -> x.mark(0, 0));
    check.dueIndex("28 square 4", () -> x.mark(0, 4));
    check.dueIndex("28 square -2", () -> x.mark(0, -2));
    check.dueIndex("28 player 2", () -> x.mark(2, 1));
    check.dueIndex("28 player -1", () -> x.mark(-1, -1));
    check.due("28 five changes and a load", x.undo(), 5);
  }

  private static void undoBringsBack() {
    HopscotchCourt x = Courts.of("court one two one;drift 1;player abc target 4 claims 1;player b;");
    x.turn(30, 0);
    check.due("29 a fault", x.player(0, 9), 1);
    x.undo();
    x.turn(28, 0);
    counts("29 through", x, 3, 4, 2, 1, 1, 1, 0, 0, 7, 1, -1);
    check.due("29 undo", x.undo(), 1);
    counts("29 undone", x, 3, 4, 2, 1, 0, 0, 0, 0, 0, 0, -1);
    numbers("29 undone", x, 0, 2, 3, 4, 1, 0, -1, 0, 0, 0, 0);
    landings("29 undone", x, 0, 0, 0, 0);
    x.claim(0, 1);
    x.mark(1, 4);
    Courts.load(x, "court two two;player x;player y;player z;");
    check.due("29 undo of load", x.undo(), 3);
    check.dueText("29 the court before", Courts.written(x), "1@abc 2/3 4*");
    check.due("29 rows", x.row(1), 102);
    x.undo();
    check.due("29 the marker", x.player(1, 5), -1);
    x.undo();
    check.due("29 the claim", x.player(0, 3), 1);
    check.due("29 the target of b", x.player(1, 2), 1);
    check.due("29 the first load", x.undo(), 0);
    check.due("29 the new court", x.count(1), 2);
    check.dueState("29 nothing more", () -> x.undo());
    check.due("29 and nothing changed", x.count(1), 2);
  }

  private static void undoCountsChanges() {
    HopscotchCourt x = new HopscotchCourt();
    x.setDrift(0);
    x.setPlayer(0, 0, 2);
    x.mark(0, -1);
    x.pass();
    x.turn(0, 0);
    x.claim(0, 1);
    x.release(1);
    Courts.load(x, "court one");
    x.save(0);
    check.due("29 five of them", x.undo(), 4);
    check.due("29 the turn is undone", x.count(5), 1);
    x.restore(0);
    check.due("29 a new one behind it", x.undo(), 4);
    check.due("29", x.undo(), 3);
    check.due("29", x.undo(), 2);
    check.due("29", x.undo(), 1);
    check.due("29", x.undo(), 0);
    check.dueState("29 no more", () -> x.undo());
  }

  private static void undoKnowsEightChanges() {
    HopscotchCourt x = new HopscotchCourt();
    for (int drift = -9; drift <= 9; drift++) {
      x.setDrift(drift);
    }
    for (int left = 7; left >= 5; left--) {
      check.due("29 left", x.undo(), left);
      check.due("29 drift", x.count(3), left + 1);
    }
    x.setDrift(-1);
    x.setDrift(-2);
    int[] drifts = {-1, 6, 5, 4, 3, 2, 1};
    for (int k = 0; k < drifts.length; k++) {
      check.due("29 left", x.undo(), 6 - k);
      check.due("29 drift", x.count(3), drifts[k]);
    }
    check.dueState("29 no more than eight", () -> x.undo());
    for (int drift = -9; drift <= 9; drift++) {
      x.setDrift(drift);
    }
    for (int left = 7; left >= 0; left--) {
      check.due("29 left", x.undo(), left);
      check.due("29 drift", x.count(3), left + 1);
    }
    check.dueState("29 no more than eight", () -> x.undo());
  }

  private static void undoLeavesTheTexts() {
    HopscotchCourt x = new HopscotchCourt();
    x.pass();
    x.writeCourt();
    x.save(1);
    Courts.load(x, "court x");
    Courts.append(x, "court one one;player a;");
    x.undo();
    check.due("29 the position stays", x.errorPosition(), 6);
    check.due("29 the text stays", x.writtenByte(2), '2');
    Courts.append(x, "player c;");
    check.due("29 the buffer stays", x.load(), 2);
    x.setPlayer(1, 3, 1);
    x.claim(1, 1);
    check.dueText("29 it was read", Courts.written(x), "1@c 2");
    check.due("29 what was saved stays", x.restore(1), 1);
  }

  private static void saveAndRestore() {
    HopscotchCourt x = Courts.of("court one two one;drift 2;player abc owns 2;player b marker 4;");
    x.turn(0, 0);
    x.save(0);
    x.turn(0, 0);
    x.save(1);
    Courts.load(x, "court two two two two;player x;player y;player z;");
    check.due("31 restore 0", x.restore(0), 1);
    check.dueText("31 the court", Courts.written(x), "1 2@abc/3 4*");
    counts("31", x, 3, 4, 2, 2, 1, 1, 1, 1, 5, 1, 0);
    numbers("31", x, 0, 2, 3, 2, 0, 0, -1, 4, 1, 0, 0);
    check.due("31 restore 1", x.restore(1), 0);
    counts("31", x, 3, 4, 2, 2, 0, 2, 1, 0, 12, 2, 0);
    numbers("31", x, 1, 2, 3, 3, 0, 0, -1, 0, 1, 0, 0);
    x.pass();
    check.due("31 it stays saved", x.restore(1), 0);
    x.setDrift(-7);
    x.save(1);
    x.setDrift(5);
    x.restore(1);
    check.due("30 in place of it", x.count(3), -7);
    x.restore(0);
    check.due("30 but not of the other", x.count(3), 2);
    x.setDrift(4);
    x.restore(0);
    check.due("30 not changed by changes", x.count(3), 2);
  }

  private static void restoreIsAChange() {
    HopscotchCourt x = new HopscotchCourt();
    check.dueIndex("30 slot 2", () -> saveIn(x, 2));
    check.dueIndex("30 slot -1", () -> saveIn(x, -1));
    check.dueIndex("31 slot 2", () -> x.restore(2));
    check.dueIndex("31 slot -1", () -> x.restore(-1));
    check.dueState("31 nothing saved", () -> x.restore(0));
    x.pass();
    x.save(1);
    check.dueState("31 nothing saved in 0", () -> x.restore(0));
    x.setDrift(3);
    x.restore(1);
    check.due("31 the drift", x.count(3), 0);
    check.due("29 undo of restore", x.undo(), 2);
    check.due("29 the drift again", x.count(3), 3);
    x.undo();
    x.undo();
    check.dueState("30 save is no change", () -> x.undo());
    check.due("31 restore behind all undone", x.restore(1), 1);
    check.due("29 undo of it", x.undo(), 0);
    check.due("29 the turn", x.count(4), 0);
  }

  private static long saveIn(HopscotchCourt x, int slot) {
    x.save(slot);
    return 0;
  }
}
