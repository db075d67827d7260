/** Promises 10 to 15: throws, and ways with the own marker on the target. */
final class WayPromises {
  private static final int[] WRONG = {Integer.MIN_VALUE, -1, 3, 6, Integer.MAX_VALUE};
  private static final String NO_TARGET = "court one one;player a owns 1;player b owns 2;player c reach 4 marker 1;";

  private WayPromises() {}

  @Sentence("Tells what would come of a throw of a player now, as if it was its turn.")
  static void promise10AThrowIsToldOutOfTurn(Check check) {
    HopscotchCourt x = Courts.of("court one one;player a;player b target 2 marker 1;player c;");
    String before = Courts.told(x);
    check.due("of b", x.throwFault(1, 11, 0), 0);
    check.due("of c", x.throwFault(2, 11, 0), 3);
    check.dueText("nothing comes of it", Courts.told(x), before);
  }

  @Sentence("Returns the fault 1 to 3; 0 if the marker would be on the target.")
  static void promise10TheFaultIs0To3(Check check) {
    HopscotchCourt x = Courts.of("court one two;drift 1;player a target 3;player b;player c;");
    int[] powers = {18, 18, 19, 9, 0, 10};
    int[] sides = {1, 0, 1, 1, 0, 1};
    int[] faults = {0, 3, 1, 2, 3, 0};
    for (int k = 0; k < powers.length; k++) {
      check.due("power " + powers[k] + " side " + sides[k], x.throwFault(0, powers[k], sides[k]), faults[k]);
    }
  }

  @Sentence("Returns the fault 1 to 3; 0 if the marker would be on the target.")
  static void promise10NoFaultOfTheHopsIsTold(Check check) {
    HopscotchCourt x = Courts.of("court one one;player a reach 1;player b;");
    check.due("there is no way out", x.hopFault(0), 4);
    check.due("but the throw is good", x.throwFault(0, 1, 0), 0);
  }

  @Sentence("Throws `IndexOutOfBoundsException` if the player does not exist")
  static void promise10AWrongPlayerIsRefused(Check check) {
    HopscotchCourt x = Courts.of("court one one;player a;player b;player c;");
    for (int player : WRONG) {
      check.dueIndex("player " + player, () -> x.throwFault(player, 1, 0));
      check.dueIndex("all wrong", () -> x.throwFault(player, -1, 2));
    }
  }

  @Sentence("Throws `IllegalArgumentException` if power or side is out of range")
  static void promise10AWrongThrowIsRefused(Check check) {
    HopscotchCourt x = new HopscotchCourt();
    for (int power : new int[] {Integer.MIN_VALUE, -1, 200, Integer.MAX_VALUE}) {
      check.dueArgument("power " + power, () -> x.throwFault(0, power, 0));
    }
    for (int side : new int[] {Integer.MIN_VALUE, -1, 2, Integer.MAX_VALUE}) {
      check.dueArgument("side " + side, () -> x.throwFault(0, 1, side));
    }
    check.due("the least", x.throwFault(0, 0, 0), 2);
    check.due("the largest", x.throwFault(0, 199, 1), 1);
  }

  @Sentence("Finds the least power with which a player would throw its marker onto its target now, with the side of the"
      + " target.")
  static void promise11ThePowerIsTheLeast(Check check) {
    HopscotchCourt x = Courts.of("court one two" + " one".repeat(8) + ";player a;player b;");
    for (int drift = -9; drift <= 9; drift++) {
      x.setDrift(drift);
      check.due("row 0 by " + drift, x.bestThrow(0), drift > 0 ? 0 : 2 * (1 - drift));
      x.setPlayer(1, 2, 11);
      check.due("row 9 by " + drift, x.bestThrow(1), 2 * (91 - drift));
      x.setPlayer(1, 2, 2);
      check.due("row 1 by " + drift, x.bestThrow(1), 2 * (11 - drift));
    }
  }

  @Sentence("Finds the least power with which a player would throw its marker onto its target now, with the side of the"
      + " target.")
  static void promise11APowerBelow0IsNone(Check check) {
    HopscotchCourt x = Courts.of("court two one;drift 1;player a target 2;player b;");
    check.due("drift 1", x.bestThrow(0), 1);
    check.due("is on the target", x.throwFault(0, 0, 1), 0);
    x.setDrift(9);
    check.due("drift 9", x.bestThrow(0), 1);
    check.due("is on the target", x.throwFault(0, 0, 1), 0);
    x.setDrift(0);
    check.due("drift 0", x.bestThrow(0), 3);
  }

  @Sentence("Returns 2 times the power, plus the side; NONE if there is none.")
  static void promise11TheSideIsAdded(Check check) {
    HopscotchCourt x = Courts.of("court one two;player a target 2;player b target 3;");
    check.due("left", x.bestThrow(0), 22);
    check.due("right", x.bestThrow(1), 23);
    x.setPlayer(0, 2, 1);
    check.due("a row of one", x.bestThrow(0), 2);
  }

  @Sentence("NONE if there is none.")
  static void promise11WithoutTargetThereIsNone(Check check) {
    HopscotchCourt x = Courts.of(NO_TARGET);
    check.due("no target", x.bestThrow(2), HopscotchCourt.NONE);
    check.due("a target", x.bestThrow(0), 2);
  }

  @Sentence("Throws `IndexOutOfBoundsException` if the player does not exist")
  static void promise11AWrongPlayerIsRefused(Check check) {
    HopscotchCourt x = Courts.of("court one one;player a;player b;player c;");
    for (int player : WRONG) {
      check.dueIndex("player " + player, () -> x.bestThrow(player));
    }
  }

  @Sentence("Tells what would come of the hops of a player, if its marker lay on its target (and nowhere else) and it was"
      + " its turn.")
  static void promise12TheMarkerIsThoughtOnTheTarget(Check check) {
    HopscotchCourt x = Courts.of("court one one;player a;player b reach 1 balance 9;");
    check.due("by its own marker there is no way", x.hopFault(1), 4);
    check.due("it was not laid there", x.player(1, 5), -1);
    HopscotchCourt y = Courts.of("court one one one;player a balance 9 target 1 marker 2;player b;");
    check.due("where it lies it is in no way", y.hopFault(0), 0);
    check.due("it was not taken away", y.player(0, 5), 2);
    check.due("no hop was made", y.count(8), 0);
  }

  @Sentence("Returns 0 if there are both ways; 4 or 5 as a fault; NONE if its target is 0.")
  static void promise12TheFaultIs0Or4Or5(Check check) {
    HopscotchCourt x = Courts.of("court one one;player a reach 3;player b;player c;");
    check.due("both ways", x.hopFault(0), 0);
    x.mark(1, 2);
    check.due("no way back", x.hopFault(0), 5);
    x.setPlayer(0, 0, 2);
    check.due("no way at all", x.hopFault(0), 4);
    x.mark(1, -1);
    x.setPlayer(0, 0, 1);
    check.due("no way out", x.hopFault(0), 4);
  }

  @Sentence("NONE if its target is 0.")
  static void promise12WithoutTargetThereIsNone(Check check) {
    HopscotchCourt x = Courts.of(NO_TARGET);
    check.due("no target", x.hopFault(2), HopscotchCourt.NONE);
  }

  @Sentence("Throws `IndexOutOfBoundsException` if the player does not exist")
  static void promise12AWrongPlayerIsRefused(Check check) {
    HopscotchCourt x = Courts.of("court one one;player a;player b;player c;");
    for (int player : WRONG) {
      check.dueIndex("player " + player, () -> x.hopFault(player));
    }
  }

  @Sentence("Returns the cost of a way of a player, as told with hopFault().")
  static void promise13TheCostIsThatOfTheWay(Check check) {
    HopscotchCourt x = Courts.of("court one one one;player a balance 9 marker 2;player b reach 3 target 3;");
    check.due("out", x.cost(0, false), 4 + 1 + 1);
    check.due("back", x.cost(0, true), 1 + 1 + 1 + 1);
    check.due("out of b, over the marker", x.cost(1, false), 1 + 9);
    check.due("back of b, over the marker", x.cost(1, true), 1 + 4 + 1);
  }

  @Sentence("Returns the cost; NONE if there is no such way, or its target is 0 (the way back is told even if there is no"
      + " way out).")
  static void promise13WithoutWayThereIsNone(Check check) {
    HopscotchCourt x = Courts.of("court one one;player a reach 3;player b marker 2;");
    check.due("out", x.cost(0, false), 9);
    check.due("no way back", x.cost(0, true), HopscotchCourt.NONE);
    x.setPlayer(0, 0, 2);
    check.due("no way out", x.cost(0, false), HopscotchCourt.NONE);
  }

  @Sentence("or its target is 0")
  static void promise13WithoutTargetThereIsNone(Check check) {
    HopscotchCourt x = Courts.of(NO_TARGET);
    check.due("out", x.cost(2, false), HopscotchCourt.NONE);
    check.due("back", x.cost(2, true), HopscotchCourt.NONE);
  }

  @Sentence("(the way back is told even if there is no way out).")
  static void promise13TheWayBackIsToldWithoutWayOut(Check check) {
    HopscotchCourt x = Courts.of("court one one;player a reach 1;player b;");
    check.due("out", x.cost(0, false), -1);
    check.due("back", x.cost(0, true), 3);
  }

  @Sentence("Throws `IndexOutOfBoundsException` if the player does not exist")
  static void promise13AWrongPlayerIsRefused(Check check) {
    HopscotchCourt x = Courts.of("court one one;player a;player b;player c;");
    for (int player : WRONG) {
      check.dueIndex("out of " + player, () -> x.cost(player, false));
      check.dueIndex("back of " + player, () -> x.cost(player, true));
    }
  }

  @Sentence("Returns a place of a way of a player, as told with hopFault().")
  static void promise14ThePlacesAreThoseOfTheWay(Check check) {
    HopscotchCourt x = Courts.of("court one one one;player a balance 9 marker 2;player b reach 3 target 3;");
    check.dueText("out", Courts.way(x, 0, false), "1 2 3");
    check.dueText("back", Courts.way(x, 0, true), "2 1 0 -100");
    check.dueText("out of b, over the marker", Courts.way(x, 1, false), "0 3");
    check.dueText("back of b, over the marker", Courts.way(x, 1, true), "2 0 -100");
  }

  @Sentence("Returns the row; the number of rows for home, START for the start; NONE if the way has not so many hops, or"
      + " there is none.")
  static void promise14GroundHasItsOwnNumbers(Check check) {
    HopscotchCourt x = Courts.of("court" + " two".repeat(10) + ";player a reach 1;player b;");
    check.due("the first row", x.place(0, false, 0), 0);
    check.due("the last row", x.place(0, false, 9), 9);
    check.due("home", x.place(0, false, 10), 10);
    check.due("the last row back", x.place(0, true, 0), 9);
    check.due("the first row back", x.place(0, true, 9), 0);
    check.due("the start", x.place(0, true, 10), HopscotchCourt.START);
  }

  @Sentence("NONE if the way has not so many hops")
  static void promise14BehindTheLastHopThereIsNone(Check check) {
    HopscotchCourt x = new HopscotchCourt();
    check.due("the last hop out", x.place(0, false, 1), 2);
    check.due("the last hop back", x.place(0, true, 2), HopscotchCourt.START);
    for (int hop : new int[] {3, 4, 10, 11, 12, 100, Integer.MAX_VALUE}) {
      check.due("out " + hop, x.place(0, false, hop), HopscotchCourt.NONE);
      check.due("back " + hop, x.place(0, true, hop), HopscotchCourt.NONE);
    }
    check.due("out 2", x.place(0, false, 2), HopscotchCourt.NONE);
    HopscotchCourt y = Courts.of("court" + " two".repeat(10) + ";player a reach 1;player b;");
    check.due("behind eleven hops", y.place(0, false, 11), HopscotchCourt.NONE);
  }

  @Sentence("or there is none.")
  static void promise14WithoutWayThereIsNone(Check check) {
    HopscotchCourt x = Courts.of("court one one;player a reach 1;player b reach 3;player c marker 2;");
    check.due("no way out", x.place(0, false, 0), HopscotchCourt.NONE);
    check.due("no way back", x.place(1, true, 0), HopscotchCourt.NONE);
    check.due("a way out", x.place(1, false, 0), 2);
    HopscotchCourt y = Courts.of(NO_TARGET);
    check.due("no target", y.place(2, false, 0), HopscotchCourt.NONE);
    check.due("no target", y.place(2, true, 0), HopscotchCourt.NONE);
  }

  @Sentence("Returns a place of a way of a player, as told with hopFault().")
  static void promise14AnotherPlayersWayLeavesNothing(Check check) {
    HopscotchCourt x = Courts.of("court two two two;player a reach 1;player b reach 3 balance 1 owns 5;player c balance 1;");
    check.due("of a", x.place(0, false, 3), 3);
    check.dueText("of b", Courts.way(x, 1, false), "0 1 2 3");
    check.dueText("of a", Courts.way(x, 0, true), "2 1 0 -100");
    x.mark(2, 3);
    x.mark(1, 4);
    check.dueText("of a, whose row is closed now", Courts.way(x, 0, false), "");
    check.dueText("of c, whose marker is thought away", Courts.way(x, 2, false), "1 3");
  }

  @Sentence("Throws `IndexOutOfBoundsException` if the player does not exist, or hop is below 0")
  static void promise14AWrongPlayerIsRefused(Check check) {
    HopscotchCourt x = Courts.of("court one one;player a;player b;player c;");
    for (int player : WRONG) {
      check.dueIndex("player " + player, () -> x.place(player, false, 0));
      check.dueIndex("player " + player, () -> x.place(player, true, 100));
    }
  }

  @Sentence("or hop is below 0")
  static void promise14AHopBelow0IsRefused(Check check) {
    HopscotchCourt x = Courts.of(NO_TARGET);
    for (int player = 0; player <= 2; player++) {
      int one = player;
      check.dueIndex("-1 out", () -> x.place(one, false, -1));
      check.dueIndex("-1 back", () -> x.place(one, true, -1));
      check.dueIndex("the least", () -> x.place(one, true, Integer.MIN_VALUE));
    }
  }

  @Sentence("Returns the least reach with which a player would have both ways, as told with hopFault(), all else being as"
      + " it is.")
  static void promise15TheReachIsTheLeast(Check check) {
    HopscotchCourt x = Courts.of("court two two;player a reach 4 balance 1;player b;");
    check.due("1", x.leastReach(0), 1);
    HopscotchCourt y = Courts.of("court one one one one;player a reach 1 balance 9 target 4;player b;player c;");
    check.due("2, over the own marker", y.leastReach(0), 2);
    y.mark(1, 3);
    check.due("3", y.leastReach(0), 3);
    y.mark(2, 2);
    check.due("4", y.leastReach(0), 4);
    check.due("the reach stays", y.player(0, 0), 1);
  }

  @Sentence("all else being as it is.")
  static void promise15TheBalanceStaysAsItIs(Check check) {
    HopscotchCourt x = Courts.of("court one one one one;player a reach 1 balance 3 target 4;player b;");
    check.due("with a balance of 3", x.leastReach(0), 2);
    x.setPlayer(0, 1, 1);
    check.due("with a balance of 1", x.leastReach(0), 3);
  }

  @Sentence("Returns 1 to 4; NONE if it would not have them with any")
  static void promise15WithNoReachThereIsNone(Check check) {
    HopscotchCourt x = Courts.of("court one one one one;player a reach 4 balance 9;player b marker 2;");
    check.due("no way back by any", x.leastReach(0), HopscotchCourt.NONE);
    HopscotchCourt y = Courts.of("court one one one one;player a reach 4 balance 9 target 4;player b marker 1;"
        + "player c marker 2;player d marker 3;");
    check.due("five rows from the start to home", y.leastReach(0), HopscotchCourt.NONE);
    y.mark(3, -1);
    check.due("four are closed no more", y.leastReach(0), 3);
  }

  @Sentence("or its target is 0.")
  static void promise15WithoutTargetThereIsNone(Check check) {
    check.due("no target", Courts.of(NO_TARGET).leastReach(2), HopscotchCourt.NONE);
  }

  @Sentence("Throws `IndexOutOfBoundsException` if the player does not exist")
  static void promise15AWrongPlayerIsRefused(Check check) {
    HopscotchCourt x = Courts.of("court one one;player a;player b;player c;");
    for (int player : WRONG) {
      check.dueIndex("player " + player, () -> x.leastReach(player));
    }
  }
}
