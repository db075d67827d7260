/** Promises 16 to 21: what would be of squares, claims and turns. */
public final class FutureTest {
  private static final Check check = new Check();

  public static void main(String[] args) {
    playableCountsSquaresWithBothWays();
    playableLeavesForbiddenSquaresOut();
    bestClaimTakesMostFromTheOthers();
    bestClaimMindsWhatIsOwned();
    turnsToCrownCountsAllTurns();
    turnsToCrownMindsMarkers();
    firstThroughIsTheFirst();
    nothingComesOfWhatWouldBe();
    meanCostIsTheMean();
    successIsAPart();
    wrongPlayers();
    check.end();
  }

  private static void playableCountsSquaresWithBothWays() {
    HopscotchCourt x = new HopscotchCourt();
    check.due("16 a new court", x.playable(0), 2);
    x.setPlayer(0, 0, 1);
    check.due("16 no way over the own marker", x.playable(0), 0);
    HopscotchCourt y = Courts.of("court two one two;player a reach 1;player b reach 1 target 3;player c;");
    check.due("16 not the one of a row of one", y.playable(0), 4);
    check.due("16 whatever the target is", y.playable(1), 4);
    check.due("16 by a longer reach", y.playable(2), 5);
    y.mark(1, 1);
    check.due("16 beside a marker", y.playable(0), 3);
    check.due("16 the own marker is nowhere else", y.playable(1), 4);
    y.mark(1, 3);
    check.due("16 a closed row", y.playable(0), 0);
    // Row 1 is closed, so that the marker in row 0 could not be picked up.
    check.due("16 a closed row for a longer reach", y.playable(2), 3);
  }

  private static void playableLeavesForbiddenSquaresOut() {
    HopscotchCourt x = Courts.of("court two one two;player a reach 1;player b owns 1;player c reach 1;");
    check.due("16 of a", x.playable(0), 2);
    check.due("16 of the owner", x.playable(1), 5);
    HopscotchCourt y = Courts.of("court one one;player a owns 1;player b owns 2;player c;");
    check.due("16 all are forbidden", y.playable(2), 0);
  }

  private static void bestClaimTakesMostFromTheOthers() {
    HopscotchCourt x = Courts.of("court two one two;player a reach 1;player b reach 1;player c;");
    check.due("17 the narrow row", x.bestClaim(2), 3);
    check.due("17 for one that has it narrow itself", x.bestClaim(0), 3);
    HopscotchCourt y = Courts.of("court two two two;player a reach 1;player b reach 1;");
    check.due("17 the lowest of several", y.bestClaim(0), 1);
    HopscotchCourt z = Courts.of("court one one;player a;player b reach 1;");
    check.due("17 nothing to lose", z.bestClaim(0), 1);
    check.due("17 claims do not matter", z.player(0, 3), 0);
  }

  private static void bestClaimMindsWhatIsOwned() {
    HopscotchCourt x = Courts.of("court two one two;player a reach 1 owns 3;player b reach 1;");
    check.due("17 an owned one is none to own", x.bestClaim(1), 1);
    check.due("17 the others have nothing", x.bestClaim(0), 1);
    HopscotchCourt last = Courts.of("court one one;player a owns 1;player b;");
    check.due("17 the last one", last.bestClaim(1), 2);
    HopscotchCourt two = Courts.of("court two one two;player a reach 1;player b;");
    check.due("17 by what the first player loses", two.bestClaim(1), 3);
    HopscotchCourt six = Courts.of("court two one two;player a reach 1;player b;player c;player d;"
        + "player e;player f;");
    check.due("17 of six players", six.bestClaim(5), 3);
    HopscotchCourt y = Courts.of("court one one;player a owns 2;player b;");
    check.due("17 the only one", y.bestClaim(1), 1);
    y.setPlayer(1, 3, 1);
    y.claim(1, 1);
    check.due("17 all are owned", y.bestClaim(0), -1);
  }

  private static void turnsToCrownCountsAllTurns() {
    HopscotchCourt x = new HopscotchCourt();
    check.due("18 of a", x.turnsToCrown(0), 3);
    check.due("18 of b", x.turnsToCrown(1), 4);
    x.pass();
    check.due("18 of a behind b", x.turnsToCrown(0), 4);
    check.due("18 of b first", x.turnsToCrown(1), 3);
    x.setPlayer(1, 2, 2);
    check.due("18 the next turn", x.turnsToCrown(1), 1);
    x.turn(11, 0);
    check.due("18 a crown more than now", x.turnsToCrown(1), 4);
    HopscotchCourt y = Courts.of("court two two two two two two two two two two;player a;player b;"
        + "player c;player d;player e;player f;");
    check.due("18 the longest", y.turnsToCrown(5), 120);
    check.due("18 of the first", y.turnsToCrown(0), 115);
    y.setDrift(-9);
    check.due("18 against the drift", y.turnsToCrown(5), 120);
    HopscotchCourt z = Courts.of("court one one;player a reach 1;player b;");
    check.due("18 never", z.turnsToCrown(0), -1);
    check.due("18 of the other one", z.turnsToCrown(1), -1);
    z.setPlayer(0, 0, 2);
    check.due("18 b again", z.turnsToCrown(1), 4);
  }

  private static void turnsToCrownMindsMarkers() {
    // The marker of c, which has no target, is in the way of b until it is c's turn.
    HopscotchCourt x = Courts.of("court one one one;player a owns 1;player b reach 3 balance 9 owns 2 owns 3;"
        + "player c marker 3;");
    check.due("18 b", x.turnsToCrown(1), 8);
    check.due("18 a", x.turnsToCrown(0), -1);
    check.due("18 c", x.turnsToCrown(2), -1);
    check.due("19 b", x.firstThrough(), 1);
    x.mark(2, HopscotchCourt.NONE);
    check.due("18 b without it", x.turnsToCrown(1), 5);
  }

  private static void firstThroughIsTheFirst() {
    HopscotchCourt x = Courts.of("court one one one;player a;player b target 2;player c target 3;");
    check.due("19 c is first", x.firstThrough(), 2);
    check.due("18 in its turn", x.turnsToCrown(2), 3);
    x.setPlayer(0, 2, 3);
    check.due("19 now a is", x.firstThrough(), 0);
    x.pass();
    check.due("19 then c is again", x.firstThrough(), 2);
    HopscotchCourt y = Courts.of("court one one;player a reach 1;player b reach 1;");
    check.due("19 nobody", y.firstThrough(), -1);
  }

  private static void nothingComesOfWhatWouldBe() {
    HopscotchCourt x = Courts.of("court two one two;player a reach 1;player b target 3 marker 4;player c owns 5;");
    x.firstThrough();
    x.turnsToCrown(1);
    x.bestClaim(0);
    x.playable(1);
    x.meanCost();
    check.dueText("18 the court stays", Courts.written(x), "1/2 3 4*/5@c");
    int[] counts = {3, 5, 3, 0, 0, 0, 1, 1, 0, 0, 2};
    for (int what = 0; what < counts.length; what++) {
      check.due("18 count " + what, x.count(what), counts[what]);
    }
    check.due("17 the target stays", x.player(1, 2), 3);
    check.due("18 no change", x.undo(), 0);
  }

  private static void meanCostIsTheMean() {
    HopscotchCourt x = new HopscotchCourt();
    check.dueReal("20 two alike", x.meanCost(), 8.0);
    x.setPlayer(0, 2, 2);
    // a hops out by 0 and home for 1 + 4, and back for 1 + 1 + 1.
    check.dueReal("20 again alike", x.meanCost(), 8.0);
    x.setPlayer(0, 0, 1);
    check.dueReal("20 only one has both", x.meanCost(), 8.0);
    x.setPlayer(1, 0, 1);
    check.dueReal("20 none has", x.meanCost(), 0.0);
    HopscotchCourt y = Courts.of("court one one one one;player a target 2;player b reach 3 balance 1 target 4;"
        + "player c reach 1;player d balance 9 target 4;");
    int sum = y.cost(0, false) + y.cost(0, true) + y.cost(1, false) + y.cost(1, true)
        + y.cost(3, false) + y.cost(3, true);
    check.due("13 all costs", sum, 52);
    check.dueReal("20 of three", y.meanCost(), 52.0 / 3.0);
    HopscotchCourt six = Courts.of("court one one;player a;player b;player c;player d;player e;player f;");
    check.dueReal("20 of six", six.meanCost(), 8.0);
    HopscotchCourt z = Courts.of("court one one;player a owns 1 owns 2;player b;");
    check.dueReal("20 not of one without target", z.meanCost(), 8.0);
  }

  private static void successIsAPart() {
    HopscotchCourt x = new HopscotchCourt();
    check.dueReal("21 without turns", x.success(), 0.0f);
    x.turn(1, 0);
    check.dueReal("21 one of one", x.success(), 1.0f);
    x.turn(0, 0);
    check.dueReal("21 one of two", x.success(), 0.5f);
    x.pass();
    check.dueReal("21 one of three", x.success(), 1.0f / 3.0f);
    x.undo();
    x.undo();
    x.undo();
    check.dueReal("21 undone", x.success(), 0.0f);
  }

  private static void wrongPlayers() {
    HopscotchCourt x = new HopscotchCourt();
    int[] wrong = {-1, 2, 6, Integer.MIN_VALUE, Integer.MAX_VALUE};
    for (int player : wrong) {
      check.dueIndex("16 player " + player, () -> x.playable(player));
      check.dueIndex("17 player " + player, () -> x.bestClaim(player));
      check.dueIndex("18 player " + player, () -> x.turnsToCrown(player));
    }
  }
}
