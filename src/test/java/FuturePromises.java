/** Promises 16 to 21: what would be. */
final class FuturePromises {
  private static final int[] WRONG = {Integer.MIN_VALUE, -1, 3, 6, Integer.MAX_VALUE};
  private static final String NO_TARGET = "court one one;player a owns 1;player b owns 2;player c;";

  private FuturePromises() {}

  @Sentence("Returns how many squares could be the target of a player so that it had both ways then")
  static void promise16SquaresWithBothWaysAreCounted(Check check) {
    HopscotchCourt x = Courts.of("court two one two;player a reach 1;player b reach 2;");
    check.due("not that of a row of one", x.playable(0), 4);
    check.due("all", x.playable(1), 5);
    x.setPlayer(0, 1, 1);
    check.due("two shaky landings, one behind the other", x.playable(0), 0);
    HopscotchCourt y = Courts.of("court" + " two".repeat(10) + ";player a reach 1 balance 1;player b;");
    check.due("twenty", y.playable(0), 20);
  }

  @Sentence("(its marker on that square and nowhere else)")
  static void promise16TheMarkerIsThoughtOnEachSquare(Check check) {
    HopscotchCourt x = Courts.of("court one one one;player a balance 9;player b;");
    check.due("all", x.playable(0), 3);
    x.mark(0, 2);
    check.due("wherever it lies", x.playable(0), 3);
    x.mark(1, 2);
    // For 1 and for 3 two rows, one behind the other, are closed; for 2 only that one.
    check.due("with another one's", x.playable(0), 1);
    check.due("the marker stays", x.player(0, 5), 2);
  }

  @Sentence("of those that are not forbidden to it.")
  static void promise16ForbiddenSquaresAreNotCounted(Check check) {
    HopscotchCourt x = Courts.of("court two two two;player a;player b owns 2 owns 4;");
    check.due("of a", x.playable(0), 4);
    check.due("of b", x.playable(1), 6);
    check.due("none is left", Courts.of(NO_TARGET).playable(2), 0);
  }

  @Sentence("Throws `IndexOutOfBoundsException` if the player does not exist")
  static void promise16AWrongPlayerIsRefused(Check check) {
    HopscotchCourt x = Courts.of("court one one;player a;player b;player c;");
    for (int player : WRONG) {
      check.dueIndex("player " + player, () -> x.playable(player));
    }
  }

  @Sentence("Finds the square that a player should own, so that the other players together would lose most of what"
      + " playable() tells of them (each by itself)")
  static void promise17MostIsLostByTheOthers(Check check) {
    HopscotchCourt x = Courts.of("court two one two;player a reach 1;player b reach 1;");
    check.due("the narrow row", x.bestClaim(0), 3);
    check.due("the narrow row", x.bestClaim(1), 3);
    // For c with its long reach the narrow row is one square, for the others it is all.
    HopscotchCourt y = Courts.of("court two one two;player a reach 1;player b reach 1;player c reach 4 balance 9;");
    check.due("of both others together", y.bestClaim(2), 3);
  }

  @Sentence("so that the other players together would lose most")
  static void promise17WhatThePlayerLosesDoesNotCount(Check check) {
    // Nobody else has a way; it alone would lose or win by squares of its own.
    HopscotchCourt x = Courts.of("court one one one;player a balance 9;player b reach 1;");
    check.due("nothing is lost", x.bestClaim(0), 1);
    check.due("but by a", x.bestClaim(1), 2);
  }

  @Sentence("so that the other players together would lose most")
  static void promise17WhatThePlayerWinsDoesNotCount(Check check) {
    // On a square 1 of its own a would rest, and could play 2 too; b has nothing to lose.
    HopscotchCourt x = Courts.of("court one one one;player a balance 1;player b reach 1;");
    check.due("of a", x.playable(0), 2);
    check.due("of b", x.playable(1), 0);
    check.due("the lowest", x.bestClaim(0), 1);
  }

  @Sentence("the other players together would lose most")
  static void promise17EachOfTheOthersCounts(Check check) {
    // By balance 1 there is nothing to lose; the other one loses most by the narrow row.
    HopscotchCourt x = Courts.of("court two one two;player a reach 1;player b;player c reach 1 balance 1;");
    check.due("of the first", x.bestClaim(1), 3);
    HopscotchCourt y = Courts.of("court two one two;player a reach 1 balance 1;player b;player c reach 1;");
    check.due("of the last", y.bestClaim(1), 3);
  }

  @Sentence("the other players together would lose most")
  static void promise17FiveOthersAreTheMost(Check check) {
    HopscotchCourt x = Courts.of("court two one two;player a reach 1;player b;player c;player d;player e;player f;");
    check.due("of the last player", x.bestClaim(5), 3);
    HopscotchCourt y = Courts.of("court two one two;player a;player b;player c;player d;player e;player f reach 1;");
    check.due("of the first player", y.bestClaim(0), 3);
  }

  @Sentence("of several the lowest one")
  static void promise17OfSeveralTheLowest(Check check) {
    HopscotchCourt x = Courts.of("court two two;player a owns 1;player b;");
    check.due("2 and others", x.bestClaim(1), 2);
    HopscotchCourt y = Courts.of("court one one;player a reach 1;player b reach 1;");
    check.due("none has anything to lose", y.bestClaim(0), 1);
  }

  @Sentence("whether it has a claim or not.")
  static void promise17AClaimIsNotNeeded(Check check) {
    HopscotchCourt x = Courts.of("court two one two;player a reach 1;player b reach 1 claims 9;");
    check.due("without", x.bestClaim(0), 3);
    check.due("with", x.bestClaim(1), 3);
    check.due("none is used", x.player(1, 3), 9);
    check.due("nothing is owned", x.count(6), 0);
  }

  @Sentence("Returns the number of the square; NONE if all squares are owned.")
  static void promise17WithoutFreeSquareThereIsNone(Check check) {
    HopscotchCourt x = Courts.of("court one one;player a owns 1;player b claims 1;");
    check.due("one is free", x.bestClaim(0), 2);
    check.due("one is free", x.bestClaim(1), 2);
    x.claim(1, 2);
    check.due("none is free", x.bestClaim(0), HopscotchCourt.NONE);
    check.due("none is free", x.bestClaim(1), HopscotchCourt.NONE);
  }

  @Sentence("Throws `IndexOutOfBoundsException` if the player does not exist")
  static void promise17AWrongPlayerIsRefused(Check check) {
    HopscotchCourt x = Courts.of("court one one;player a;player b;player c;");
    for (int player : WRONG) {
      check.dueIndex("player " + player, () -> x.bestClaim(player));
    }
  }

  @Sentence("Returns how many turns would be made until a player has a crown more than now")
  static void promise18AllTurnsAreCounted(Check check) {
    HopscotchCourt x = Courts.of("court one one;player a target 2;player b;player c;");
    check.due("the very next", x.turnsToCrown(0), 1);
    check.due("its second one", x.turnsToCrown(1), 5);
    check.due("its second one", x.turnsToCrown(2), 6);
    x.pass();
    check.due("behind the others", x.turnsToCrown(0), 3);
  }

  @Sentence("has a crown more than now")
  static void promise18CrownsOfBeforeDoNotCount(Check check) {
    HopscotchCourt x = Courts.of("court one one;player a target 2;player b;");
    x.turn(11, 0);
    check.due("a crown", x.player(0, 4), 1);
    check.due("another one", x.turnsToCrown(0), 4);
    check.due("no turn is made", x.count(5), 1);
  }

  @Sentence("if all players made turns by bestThrow() from now on (with power 0 and side 0 where there is none)")
  static void promise18WithoutTargetAPlayerThrowsAllTheSame(Check check) {
    // c has no target; its turns count, and by the first of them its marker is taken away.
    HopscotchCourt x = Courts.of("court one one one;player a owns 1;player b reach 3 balance 9 owns 2 owns 3;"
        + "player c marker 3;");
    check.due("b", x.turnsToCrown(1), 8);
    x.mark(2, HopscotchCourt.NONE);
    check.due("b without the marker", x.turnsToCrown(1), 5);
    for (int drift = -9; drift <= 9; drift++) {
      x.setDrift(drift);
      check.due("c with the drift " + drift, x.turnsToCrown(2), -1);
      check.due("b with the drift " + drift, x.turnsToCrown(1), 5);
    }
  }

  @Sentence("and nobody used claims.")
  static void promise18ClaimsAreNotUsed(Check check) {
    HopscotchCourt x = Courts.of("court one one;player a claims 9;player b claims 9;");
    check.due("of a", x.turnsToCrown(0), 3);
    check.due("of b", x.turnsToCrown(1), 4);
    check.due("claims", x.player(0, 3), 9);
  }

  @Sentence("Returns the number of turns, at most 300; NONE if it takes more.")
  static void promise18TheLongestGame(Check check) {
    String six = ";player a;player b;player c;player d;player e;player f;";
    HopscotchCourt x = Courts.of("court" + " two".repeat(10) + six);
    check.due("twenty rounds of six", x.turnsToCrown(5), 120);
    x.turn(1, 0);
    check.due("one less", x.turnsToCrown(5), 119);
  }

  @Sentence("at most 300")
  static void promise18AGameWithManyStandstills(Check check) {
    // The markers laid by hand hold some players up, whose own markers then hold up others.
    HopscotchCourt x = Courts.of("court two two two two two two two two two two;player a reach 2 balance 1 target 3"
        + " marker 12;player b reach 3 balance 1 target 4;player c reach 2 balance 9 target 11 marker 1;player d reach 3"
        + " balance 1 target 5 marker 13;player e reach 3 balance 8 target 8 marker 6;player f reach 1 balance 1 target 1"
        + " owns 1 owns 5 owns 11 marker 7;");
    int[] turns = {127, 110, 69, 100, 83, 156};
    for (int player = 0; player < 6; player++) {
      check.due("turns of " + player, x.turnsToCrown(player), turns[player]);
    }
    check.due("the first", x.firstThrough(), 2);
  }

  @Sentence("NONE if it takes more.")
  static void promise18WhoIsNeverThroughHasNone(Check check) {
    HopscotchCourt x = Courts.of("court one one;player a reach 1;player b;");
    check.due("a, without way", x.turnsToCrown(0), HopscotchCourt.NONE);
    check.due("b, whose way it bars", x.turnsToCrown(1), HopscotchCourt.NONE);
    check.due("c, without target", Courts.of(NO_TARGET).turnsToCrown(2), HopscotchCourt.NONE);
  }

  @Sentence("Throws `IndexOutOfBoundsException` if the player does not exist")
  static void promise18AWrongPlayerIsRefused(Check check) {
    HopscotchCourt x = Courts.of("court one one;player a;player b;player c;");
    for (int player : WRONG) {
      check.dueIndex("player " + player, () -> x.turnsToCrown(player));
    }
  }

  @Sentence("Returns the player that would have a crown more than now first")
  static void promise19TheFirstIsTold(Check check) {
    HopscotchCourt x = Courts.of("court one one one;player a;player b target 2;player c target 3;");
    check.due("the last player", x.firstThrough(), 2);
    x.setPlayer(1, 2, 3);
    check.due("the one ahead of it", x.firstThrough(), 1);
    x.setPlayer(0, 2, 3);
    check.due("the first player", x.firstThrough(), 0);
    x.turn(21, 0);
    check.due("not for the crown of before", x.firstThrough(), 1);
  }

  @Sentence("if all players made turns as told with turnsToCrown(), in at most 300 turns.")
  static void promise19TurnsAreThoseOfTurnsToCrown(Check check) {
    HopscotchCourt x = Courts.of("court one two one;drift -3;player a claims 3;player b owns 2;player c balance 1 target 4;");
    int first = x.firstThrough();
    for (int player = 0; player < 3; player++) {
      int turns = x.turnsToCrown(player);
      boolean later = player == first || turns == -1 || turns > x.turnsToCrown(first);
      check.due("first " + first + " and " + player, later ? 1 : 0, 1);
    }
    check.due("no turn is made", x.count(5), 0);
  }

  @Sentence("Returns the number of the player; NONE if there is none.")
  static void promise19WithoutCrownThereIsNone(Check check) {
    HopscotchCourt x = Courts.of("court one one;player a reach 1;player b reach 1;");
    check.due("nobody", x.firstThrough(), HopscotchCourt.NONE);
    x.setPlayer(1, 0, 2);
    check.due("a bars the way of b", x.firstThrough(), HopscotchCourt.NONE);
    x.setPlayer(0, 0, 2);
    x.setPlayer(1, 0, 1);
    check.due("b bars the way of a", x.firstThrough(), HopscotchCourt.NONE);
    x.setPlayer(1, 0, 2);
    check.due("a", x.firstThrough(), 0);
  }

  @Sentence("Returns the mean cost of both ways together, over all players that have both as told with hopFault().")
  static void promise20OnlyPlayersWithBothWaysCount(Check check) {
    HopscotchCourt x = Courts.of("court one one;player a;player b reach 3;player c reach 1;");
    check.dueReal("two of three", x.meanCost(), (5 + 3 + 5 + 3) / 2.0);
    x.setPlayer(0, 0, 1);
    check.dueReal("one of three", x.meanCost(), 8.0);
    // b hops out over all rows, but back there is no way.
    x.mark(2, 2);
    check.due("no way back", x.hopFault(1), 5);
    check.dueReal("none", x.meanCost(), 0.0);
  }

  @Sentence("Returns the sum of the costs, converted to double, divided by the number of these players; 0 without any.")
  static void promise20TheMeanIsADouble(Check check) {
    HopscotchCourt x = Courts.of("court one one one one;player a balance 9 target 4;player b reach 1 balance 9 target 4;"
        + "player c reach 3 balance 1 target 4;player d balance 3 target 4;");
    check.due("a", x.cost(0, false) + x.cost(0, true), 7 + 5);
    check.due("c", x.cost(2, false) + x.cost(2, true), 13 + 13);
    check.due("d", x.cost(3, false) + x.cost(3, true), 7 + 7);
    check.dueReal("three of four", x.meanCost(), 52.0 / 3.0);
  }

  @Sentence("over all players that have both as told with hopFault().")
  static void promise20TheLastOfSixPlayersCounts(Check check) {
    HopscotchCourt x = Courts.of("court one one one;player a reach 1;player b reach 1;player c reach 1;"
        + "player d reach 1;player e reach 1;player f target 3;");
    check.due("of the first five", x.hopFault(4), 4);
    check.due("of the last", x.hopFault(5), 0);
    check.dueReal("the last alone", x.meanCost(), 6 + 4);
  }

  @Sentence("0 without any.")
  static void promise20WithoutAnyItIs0(Check check) {
    HopscotchCourt x = Courts.of("court one one;player a reach 1;player b reach 1;");
    check.dueReal("no way", x.meanCost(), 0.0);
    HopscotchCourt y = Courts.of("court one one;player a reach 1 owns 1 owns 2;player b;");
    check.dueReal("no way, no target", y.meanCost(), 0.0);
  }

  @Sentence("Returns which part of the turns had no fault.")
  static void promise21ThePartWithoutFault(Check check) {
    HopscotchCourt x = new HopscotchCourt();
    x.turn(1, 0);
    check.dueReal("all", x.success(), 1.0f);
    x.turn(0, 0);
    check.dueReal("half of them", x.success(), 0.5f);
  }

  @Sentence("Returns count(9) divided by count(5), both converted to float")
  static void promise21ItIsAQuotientOfFloats(Check check) {
    HopscotchCourt x = new HopscotchCourt();
    x.turn(1, 0);
    x.pass();
    x.turn(0, 0);
    check.dueReal("a third, for a pass is a turn", x.success(), 1.0f / 3.0f);
    x.turn(0, 0);
    x.turn(11, 0);
    x.turn(0, 0);
    x.turn(0, 0);
    check.dueReal("two sevenths", x.success(), 2.0f / 7.0f);
  }

  @Sentence("0 without turns.")
  static void promise21WithoutTurnsItIs0(Check check) {
    HopscotchCourt x = new HopscotchCourt();
    check.dueReal("a new court", x.success(), 0.0f);
    x.turn(1, 0);
    x.undo();
    check.dueReal("undone", x.success(), 0.0f);
    x.pass();
    check.dueReal("a pass alone", x.success(), 0.0f);
  }
}
