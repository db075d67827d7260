/** Promises 10 to 15: throws, and ways with the own marker on the target. */
public final class WaysTest {
  private static final Check check = new Check();

  public static void main(String[] args) {
    throwFaultTellsTheFirstFault();
    throwFaultMindsTheDrift();
    throwFaultRefusesWrongThrows();
    bestThrowIsTheLeast();
    aWayIsTheCheapest();
    aWayMayHaveElevenHops();
    ofWaysTheOneThatHopsLessFarFirst();
    balanceEndsBehindShakyLandings();
    firmLandingsAreRests();
    theWayBackLandsBehindTheMarker();
    thePickedUpMarkerLiesNoMore();
    markersAndOwnersClose();
    waysWithoutTarget();
    onlyOneWay();
    theOwnMarkerIsThoughtOnTheTarget();
    leastReachIsTheLeast();
    waysOfWrongPlayers();
    check.end();
  }

  private static void ways(String text, int fault, String out, int outCost, String back, int backCost) {
    ways(text, Courts.of(text), 0, fault, out, outCost, back, backCost);
  }

  private static void ways(String text, HopscotchCourt x, int player, int fault, String out,
      int outCost, String back, int backCost) {
    check.due("12 hopFault " + text, x.hopFault(player), fault);
    check.due("13 cost out " + text, x.cost(player, false), outCost);
    check.due("13 cost back " + text, x.cost(player, true), backCost);
    check.dueText("14 way out " + text, Courts.way(x, player, false), out);
    check.dueText("14 way back " + text, Courts.way(x, player, true), back);
  }

  private static void throwFaultTellsTheFirstFault() {
    HopscotchCourt x = Courts.of("court one two one;player a target 2;player b;player c target 4;");
    int[] powers = {0, 1, 9, 10, 11, 19, 20, 21, 29, 30, 31, 40, 199};
    int[] left = {2, 3, 3, 2, 0, 0, 2, 3, 3, 1, 1, 1, 1};
    int[] right = {2, 3, 3, 2, 3, 3, 2, 3, 3, 1, 1, 1, 1};
    int[] leftOfC = {2, 3, 3, 2, 3, 3, 2, 0, 0, 1, 1, 1, 1};
    for (int k = 0; k < powers.length; k++) {
      check.due("10 left " + powers[k], x.throwFault(0, powers[k], 0), left[k]);
      check.due("10 right " + powers[k], x.throwFault(0, powers[k], 1), right[k]);
      check.due("10 c left " + powers[k], x.throwFault(2, powers[k], 0), leftOfC[k]);
      check.due("10 c right " + powers[k], x.throwFault(2, powers[k], 1), leftOfC[k]);
    }
    x.setPlayer(0, 2, 3);
    check.due("10 the right square", x.throwFault(0, 15, 1), 0);
    check.due("10 not the left one", x.throwFault(0, 15, 0), 3);
    check.due("10 nothing comes of it", x.count(5) + x.count(7), 0);
  }

  private static void throwFaultMindsTheDrift() {
    HopscotchCourt x = Courts.of("court one two one;drift -5;player a target 2;player b;");
    int[] powers = {0, 4, 5, 6, 14, 15, 16, 24, 25, 34, 35};
    int[] faults = {1, 1, 2, 3, 3, 2, 0, 0, 2, 3, 1};
    for (int k = 0; k < powers.length; k++) {
      check.due("10 drift -5 " + powers[k], x.throwFault(0, powers[k], 0), faults[k]);
    }
    x.setDrift(9);
    powers = new int[] {0, 1, 2, 10, 11, 20, 21, 199};
    faults = new int[] {3, 2, 0, 0, 2, 3, 1, 1};
    for (int k = 0; k < powers.length; k++) {
      check.due("10 drift 9 " + powers[k], x.throwFault(0, powers[k], 0), faults[k]);
    }
    HopscotchCourt y = Courts.of("court two two two two two two two two two two;drift 9;"
        + "player a target 20;player b;");
    check.due("10 the last row", y.throwFault(0, 90, 1), 0);
    check.due("10 behind it", y.throwFault(0, 91, 1), 1);
    HopscotchCourt z = Courts.of("court one one;player a owns 1;player b owns 2;player c;");
    check.due("10 no target", z.throwFault(2, 1, 0), 3);
    check.due("10 out all the same", z.throwFault(2, 20, 0), 1);
    check.due("10 on a line all the same", z.throwFault(2, 10, 0), 2);
  }

  private static void throwFaultRefusesWrongThrows() {
    HopscotchCourt x = new HopscotchCourt();
    check.dueIndex("10 player 2", () -> x.throwFault(2, 1, 0));
    check.dueIndex("10 player -1", () -> x.throwFault(-1, 1, 0));
    check.dueIndex("10 all wrong", () -> x.throwFault(2, 200, 2));
    check.dueArgument("10 power 200", () -> x.throwFault(0, 200, 0));
    check.dueArgument("10 power -1", () -> x.throwFault(0, -1, 0));
    check.dueArgument("10 power most", () -> x.throwFault(0, Integer.MAX_VALUE, 0));
    check.dueArgument("10 side 2", () -> x.throwFault(0, 1, 2));
    check.dueArgument("10 side -1", () -> x.throwFault(0, 1, -1));
    check.due("10 power 199", x.throwFault(0, 199, 1), 1);
  }

  private static void bestThrowIsTheLeast() {
    HopscotchCourt x = Courts.of("court one two one two two two two two two two;player a;player b;");
    int[] targets = {1, 2, 3, 4, 18};
    int[] withoutDrift = {2, 22, 23, 42, 183};
    int[] withDrift9 = {0, 4, 5, 24, 165};
    int[] withDrift5 = {0, 12, 13, 32, 173};
    int[] withDriftBack = {20, 40, 41, 60, 201};
    for (int k = 0; k < targets.length; k++) {
      x.setPlayer(0, 2, targets[k]);
      x.setDrift(0);
      check.due("11 target " + targets[k], x.bestThrow(0), withoutDrift[k]);
      x.setDrift(9);
      check.due("11 drift 9 target " + targets[k], x.bestThrow(0), withDrift9[k]);
      x.setDrift(5);
      check.due("11 drift 5 target " + targets[k], x.bestThrow(0), withDrift5[k]);
      x.setDrift(-9);
      check.due("11 drift -9 target " + targets[k], x.bestThrow(0), withDriftBack[k]);
    }
    HopscotchCourt y = Courts.of("court one one;player a owns 1;player b owns 2;player c;");
    check.due("11 no target", y.bestThrow(2), -1);
    check.dueIndex("11 player 3", () -> y.bestThrow(3));
    check.dueIndex("11 player -1", () -> y.bestThrow(-1));
  }

  private static void aWayIsTheCheapest() {
    ways("court one one;player a;player b;", 0, "1 2", 5, "1 0 -100", 3);
    ways("court one one one one one;player a balance 9 target 5;player b;",
        0, "0 1 2 3 5", 8, "4 3 2 1 0 -100", 6);
    ways("court one one one one one;player a reach 4 balance 9 target 3;player b;",
        0, "0 1 3 4 5", 8, "4 3 2 1 0 -100", 6);
    ways("court two two two;player a reach 1 balance 1 target 6;player b;",
        0, "0 1 2 3", 4, "2 1 0 -100", 4);
  }

  private static void aWayMayHaveElevenHops() {
    ways("court two two two two two two two two two two;player a reach 1 balance 1;player b;",
        0, "0 1 2 3 4 5 6 7 8 9 10", 11, "9 8 7 6 5 4 3 2 1 0 -100", 11);
  }

  private static void ofWaysTheOneThatHopsLessFarFirst() {
    // With one landing at most it is 2 and 3 rows, or 3 and 2.
    ways("court one one one one;player a reach 3 balance 1 target 4;player b;",
        0, "1 4", 13, "2 -100", 13);
    ways("court one one one one one one;player a reach 3 balance 2 target 6;player b;",
        0, "1 3 6", 17, "4 2 -100", 17);
    // Home lies next to a closed row: the short hop comes first out, and second on the way back.
    ways("court one one one one;player a reach 2 balance 2 target 4;player b marker 4;",
        0, "0 2 4", 9, "2 1 -100", 9);
  }

  private static void balanceEndsBehindShakyLandings() {
    String rows = "court one one one one one;";
    ways(rows + "player a reach 2 balance 1 target 5;player b;", 4, "", -1, "", -1);
    ways(rows + "player a reach 2 balance 2 target 5;player b;", 0, "1 3 5", 12, "3 1 -100", 12);
    ways(rows + "player a reach 2 balance 3 target 5;player b;", 0, "0 1 3 5", 10, "4 3 1 -100", 10);
    ways(rows + "player a reach 2 balance 4 target 5;player b;", 0, "0 1 2 3 5", 8, "4 3 2 1 -100", 8);
    ways("court one one one one one one one one one one;player a reach 1 balance 9 target 1;player b;",
        4, "", -1, "", -1);
    ways("court one one one one one one one one one one;player a reach 2 balance 9 target 10;player b;",
        0, "0 1 2 3 4 5 6 7 8 10", 13, "9 8 7 6 5 4 3 2 1 -100", 13);
  }

  private static void firmLandingsAreRests() {
    ways("court one one two one one one;player a reach 2 balance 2 target 7;player b;",
        0, "0 1 2 3 4 6", 9, "5 4 2 1 0 -100", 9);
    ways("court one one two one one one;player a reach 2 balance 2 target 7;player b marker 4;",
        4, "", -1, "", -1);
    ways("court one one two one one one;player a reach 2 balance 2 target 7 owns 3;player b marker 4;",
        0, "0 1 2 3 4 6", 9, "5 4 2 1 0 -100", 9);
    ways("court one one two one one one;player a reach 2 balance 2 target 7 owns 4;player b marker 4;",
        4, "", -1, "", -1);
    ways("court one one one;player a reach 1 balance 1 target 3 owns 1 owns 2;player b;",
        4, "", -1, "2 1 0 -100", 4);
  }

  private static void theWayBackLandsBehindTheMarker() {
    ways("court one one one;player a reach 3 balance 1 target 2;player b;",
        0, "0 3", 10, "2 -100", 10);
    // The row behind the marker is closed, though a hop over it would do.
    ways("court one one one one;player a reach 3 balance 9;player b marker 2;",
        5, "2 3 4", 11, "", -1);
    // Home itself is the row behind the last one.
    ways("court one one one;player a reach 2 balance 9 target 3;player b;",
        0, "0 1 3", 6, "2 1 0 -100", 4);
    ways("court one one one one one;player a reach 3 balance 9 target 1;player b marker 4;player c marker 5;",
        0, "1 2 5", 14, "2 1 0 -100", 12);
    ways("court two one one;player a reach 4 balance 1 target 1;player b;",
        0, "1 3", 8, "1 0 -100", 6);
  }

  private static void thePickedUpMarkerLiesNoMore() {
    ways("court two one;player a balance 1;player b;", 0, "0 2", 5, "1 0 -100", 3);
    ways("court two one;player a balance 1;player b marker 1;", 0, "0 2", 5, "1 -100", 5);
    ways("court one two one one;player a reach 2 balance 1 target 2;player b;",
        4, "", -1, "2 1 0 -100", 7);
  }

  private static void markersAndOwnersClose() {
    HopscotchCourt x = Courts.of("court two two two;player a reach 2 balance 1;player b owns 3 marker 4;player c;");
    ways("closed in the middle", x, 0, 5, "0 2 3", 6, "", -1);
    ways("its own marker is not there", x, 1, 0, "0 1 2 3", 4, "2 1 0 -100", 4);
    x.mark(1, HopscotchCourt.NONE);
    ways("shaky in the middle", x, 0, 0, "0 2 3", 6, "2 1 0 -100", 4);
    ways("the owner rests there", x, 1, 0, "0 1 2 3", 4, "2 1 0 -100", 4);
    ways("of the third one", x, 2, 0, "0 1 2 3", 4, "2 1 0 -100", 4);
  }

  private static void waysWithoutTarget() {
    HopscotchCourt x = Courts.of("court one one;player a owns 1;player b owns 2;player c;");
    ways("no target", x, 2, -1, "", -1, "", -1);
    check.due("15 no target", x.leastReach(2), -1);
    x.setPlayer(2, 0, 4);
    ways("no target, though one hop would do", x, 2, -1, "", -1, "", -1);
    check.due("15 no target by any reach", x.leastReach(2), -1);
  }

  private static void onlyOneWay() {
    HopscotchCourt x = Courts.of("court one two two one;player a;player b balance 1;");
    ways("both", x, 1, 0, "1 2 3 4", 7, "3 2 1 0 -100", 5);
    x.setPlayer(1, 0, 1);
    ways("only back", x, 1, 4, "", -1, "3 2 1 0 -100", 5);
  }

  private static void theOwnMarkerIsThoughtOnTheTarget() {
    HopscotchCourt x = Courts.of("court one one two;player a balance 9 target 1 marker 2;player b balance 9 target 3;");
    ways("elsewhere", x, 0, 0, "1 2 3", 6, "2 1 0 -100", 4);
    ways("for another one", x, 1, 0, "0 2 3", 6, "2 0 -100", 6);
    check.due("14 nothing was laid", x.player(0, 5), 2);
    check.due("12 no hops", x.count(8), 0);
  }

  private static void leastReachIsTheLeast() {
    HopscotchCourt x = Courts.of("court one one one one one;player a reach 1 balance 9;player b reach 4;player c;");
    check.due("15 beyond its own marker", x.leastReach(0), 2);
    x.mark(1, 3);
    check.due("15 a second closed row", x.leastReach(0), 2);
    x.mark(1, 2);
    check.due("15 the row behind is closed", x.leastReach(0), -1);
    x.mark(1, 4);
    x.mark(2, 5);
    check.due("15 over two rows", x.leastReach(0), 3);
    x.setPlayer(0, 2, 3);
    check.due("15 nowhere to pick up", x.leastReach(0), -1);
    HopscotchCourt y = Courts.of("court two two two;player a reach 4 balance 1;player b target 6;player c;");
    check.due("15 firm rows", y.leastReach(0), 1);
    check.due("15 firm rows", y.leastReach(1), 1);
    HopscotchCourt z = Courts.of("court one one one one one one;player a balance 9 target 6;"
        + "player b marker 2;player c marker 3;player d marker 4;");
    check.due("15 over three rows", z.leastReach(0), 4);
    check.due("15 the reach stays", z.player(0, 0), 2);
    check.due("15 of another one", z.leastReach(1), 3);
  }

  private static void waysOfWrongPlayers() {
    HopscotchCourt x = new HopscotchCourt();
    int[] wrong = {-1, 2, 6, Integer.MIN_VALUE, Integer.MAX_VALUE};
    for (int player : wrong) {
      check.dueIndex("12 player " + player, () -> x.hopFault(player));
      check.dueIndex("13 player " + player, () -> x.cost(player, true));
      check.dueIndex("14 player " + player, () -> x.place(player, false, 0));
      check.dueIndex("14 both wrong " + player, () -> x.place(player, false, -1));
      check.dueIndex("15 player " + player, () -> x.leastReach(player));
    }
    check.dueIndex("14 hop -1", () -> x.place(0, false, -1));
    check.dueIndex("14 hop least", () -> x.place(0, true, Integer.MIN_VALUE));
    check.due("14 hop most", x.place(0, true, Integer.MAX_VALUE), -1);
    check.due("14 behind the last hop", x.place(0, true, 3), -1);
    check.due("14 the start", x.place(0, true, 2), HopscotchCourt.START);
  }
}
