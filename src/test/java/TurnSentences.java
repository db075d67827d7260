/** Section 4 of the document: turns. */
final class TurnSentences {
  private TurnSentences() {}

  @Sentence("Turns go round by the numbers of the players")
  static void section4BehindTheLastPlayerComesTheFirst(Check check) {
    HopscotchCourt x = Courts.of("court one one;player a;player b;player c;player d;player e;player f;");
    for (int turn = 1; turn <= 13; turn++) {
      if (turn % 2 == 0) {
        x.pass();
      } else {
        x.turn(turn % 3, 0);
      }
      check.due("whose turn it is behind " + turn, x.count(4), turn % 6);
    }
    HopscotchCourt y = Courts.of("court one one;player a;player b;");
    check.due("b", y.pass(), 1);
    check.due("a again", y.pass(), 0);
  }

  @Sentence("at first it is the turn of player 0.")
  static void section4PlayerZeroBegins(Check check) {
    HopscotchCourt x = new HopscotchCourt();
    check.due("at first", x.count(4), 0);
    x.pass();
    Courts.load(x, "court one one;player a;player b;player c;");
    check.due("behind a text", x.count(4), 0);
    x.turn(1, 0);
    check.due("its turn", x.player(0, 7), 1);
    check.due("not another one's", x.player(1, 7), 0);
  }

  @Sentence("In its turn a player takes its marker away, if it has one on a square, and throws.")
  static void section4APlayerTakesItsMarkerAway(Check check) {
    HopscotchCourt x = Courts.of("court one one one;player a reach 1 balance 9 target 2 marker 3;player b marker 3;");
    check.due("a turn", x.turn(0, 0), 2);
    check.due("no marker of a", x.player(0, 5), -1);
    check.due("that of b is there", x.player(1, 5), 3);
    check.due("markers", x.count(7), 1);
  }

  @Sentence("In its turn a player takes its marker away, if it has one on a square, and throws.")
  static void section4APlayerWithoutMarkerThrowsToo(Check check) {
    HopscotchCourt x = new HopscotchCourt();
    check.due("no marker", x.player(0, 5), -1);
    check.due("on a line", x.turn(0, 0), 2);
    check.due("no marker", x.player(0, 5), -1);
    check.due("through the first square", x.turn(1, 0), 0);
  }

  @Sentence("In its turn a player takes its marker away, if it has one on a square, and throws.")
  static void section4TheMarkerThatWasTakenAwayIsInNoWay(Check check) {
    // Where it lay, row 1 would be closed on both ways.
    HopscotchCourt x = Courts.of("court one one one;player a balance 9 marker 2;player b;");
    check.due("turn", x.turn(1, 0), 0);
    check.dueLandings(x, 1, 2, 2);
  }

  @Sentence("With a fault of the throw the marker lies nowhere, and the turn is over.")
  static void section4AFaultOfTheThrowEndsTheTurn(Check check) {
    int[] powers = {20, 10, 11};
    for (int fault = 1; fault <= 3; fault++) {
      HopscotchCourt x = Courts.of("court one one;player a marker 1;player b;");
      check.due("fault", x.turn(powers[fault - 1], 0), fault);
      check.dueNumbers(x, 0, 2, 3, 1, 0, 0, -1, 0, 1, 1, fault);
      check.dueCounts(x, 2, 2, 2, 0, 1, 1, 0, 0, 0, 0, -1);
      check.dueLandings(x, 0, 0);
    }
  }

  @Sentence("Otherwise the marker lies on the target, and the player hops: 4 there is no way out")
  static void section4WithoutWayOutIsFault4(Check check) {
    HopscotchCourt x = Courts.of("court one one;player a reach 1;player b;");
    check.due("turn", x.turn(1, 0), 4);
    check.due("fault", x.player(0, 9), 4);
  }

  @Sentence("Otherwise the marker lies on the target, and the player hops: 4 there is no way out")
  static void section4WithoutBothWaysIsFault4(Check check) {
    HopscotchCourt x = Courts.of("court one one;player a reach 1;player b marker 2;");
    check.due("cost back", x.cost(0, true), -1);
    check.due("turn", x.turn(1, 0), 4);
  }

  @Sentence("5 there is no way back.")
  static void section4WithoutWayBackIsFault5(Check check) {
    HopscotchCourt x = Courts.of("court one one;player a reach 3;player b marker 2;");
    check.due("cost out", x.cost(0, false), 9);
    check.due("turn", x.turn(1, 0), 5);
    check.due("fault", x.player(0, 9), 5);
  }

  @Sentence("With these faults the marker stays where it lies, and no hop is made.")
  static void section4WithoutWayTheMarkerStays(Check check) {
    for (int fault = 4; fault <= 5; fault++) {
      HopscotchCourt x = Courts.of("court one one;player a reach " + (fault == 4 ? 1 : 3) + " marker 2;player b marker 2;");
      check.due("fault", x.turn(1, 0), fault);
      check.due("the marker is on the target", x.player(0, 5), 1);
      check.due("target", x.player(0, 2), 1);
      check.dueLandings(x, 0, 0);
      check.dueCounts(x, 2, 2, 2, 0, 1, 1, 0, 2, 0, 0, -1);
    }
  }

  @Sentence("Without a fault the marker is picked up")
  static void section4WithoutFaultTheMarkerIsPickedUp(Check check) {
    HopscotchCourt x = Courts.of("court one one;player a marker 2;player b;");
    check.due("turn", x.turn(1, 0), 0);
    check.due("no marker", x.player(0, 5), -1);
    check.due("markers", x.count(7), 0);
    check.due("faultless turns", x.count(9), 1);
  }

  @Sentence("the next square behind the target, by number, that is not forbidden to it becomes the target")
  static void section4TheNextTargetIsNotForbidden(Check check) {
    HopscotchCourt x = Courts.of("court two two two;player a owns 2;player b owns 3;");
    x.turn(1, 0);
    check.due("an own square is the next", x.player(0, 2), 2);
    x.pass();
    x.turn(1, 1);
    check.due("a forbidden one is skipped", x.player(0, 2), 4);
    HopscotchCourt y = Courts.of("court two two two;player a;player b owns 2 owns 3;");
    y.turn(1, 0);
    check.due("two forbidden ones are skipped", y.player(0, 2), 4);
    check.due("no crown", y.player(0, 4), 0);
  }

  @Sentence("if there is none such up to the last square, the player is through: it has one crown and one claim more")
  static void section4BehindTheLastSquareThePlayerIsThrough(Check check) {
    HopscotchCourt x = Courts.of("court one one;player a;player b;");
    x.turn(1, 0);
    check.due("not yet", x.player(0, 4), 0);
    x.pass();
    check.due("turn", x.turn(11, 0), 0);
    check.dueNumbers(x, 0, 2, 3, 1, 1, 1, -1, 0, 2, 0, 0);
    check.dueNumbers(x, 1, 2, 3, 1, 0, 0, -1, 0, 1, 0, 0);
  }

  @Sentence("if there is none such up to the last square, the player is through: it has one crown and one claim more")
  static void section4WithAForbiddenOneBehindItThePlayerIsThrough(Check check) {
    HopscotchCourt x = Courts.of("court two two;player a target 3;player b owns 4;");
    check.due("turn", x.turn(11, 0), 0);
    check.dueNumbers(x, 0, 2, 3, 1, 1, 1, -1, 0, 1, 0, 0);
  }

  @Sentence("if there is none such up to the last square, the player is through: it has one crown and one claim more")
  static void section4AFaultIsNoCrown(Check check) {
    HopscotchCourt x = Courts.of("court one one;player a reach 1 target 2;player b;");
    check.due("turn", x.turn(11, 0), 4);
    check.dueNumbers(x, 0, 1, 3, 2, 0, 0, 2, 0, 1, 1, 4);
  }

  @Sentence("(but never more than 9 claims)")
  static void section4NineClaimsAreTheMost(Check check) {
    HopscotchCourt x = Courts.of("court one one;player a target 2 claims 8;player b;");
    x.turn(11, 0);
    check.due("the ninth", x.player(0, 3), 9);
    x.pass();
    x.setPlayer(0, 2, 2);
    x.turn(11, 0);
    check.due("no tenth", x.player(0, 3), 9);
    check.due("but a crown", x.player(0, 4), 2);
    check.due("one is used", x.claim(0, 1), 1);
    check.due("eight are left", x.player(0, 3), 8);
  }

  @Sentence("and its target is the first square that is not forbidden to it.")
  static void section4BehindTheCrownComesTheFirstFreeSquare(Check check) {
    HopscotchCourt x = Courts.of("court two two;player a target 4 owns 3;player b owns 1 owns 2;");
    x.setPlayer(0, 0, 3);
    check.due("turn", x.turn(11, 1), 0);
    check.dueNumbers(x, 0, 3, 3, 3, 1, 1, -1, 8, 1, 0, 0);
    HopscotchCourt y = Courts.of("court one one;player a reach 3 target 1;player b owns 2;");
    check.due("turn", y.turn(1, 0), 5);
    HopscotchCourt z = Courts.of("court one one;player a reach 3 target 2;player b owns 1;");
    check.due("turn", z.turn(11, 0), 0);
    check.due("the only square once more", z.player(0, 2), 2);
    check.due("with a crown", z.player(0, 4), 1);
  }

  @Sentence("A player with a claim can own a square that nobody owns, at any time; then it has a claim less.")
  static void section4TheLastClaimCanBeUsed(Check check) {
    HopscotchCourt x = Courts.of("court one one;player a;player b claims 1;");
    check.due("not in its turn", x.count(4), 0);
    check.due("claim", x.claim(1, 2), 1);
    check.due("none is left", x.player(1, 3), 0);
    check.due("owner", x.square(2, 2), 1);
    check.due("no more", x.claim(1, 1), -11);
    check.due("the turn is that of a", x.count(4), 0);
    check.due("no turn was made", x.count(5), 0);
  }

  @Sentence("A player with a claim can own a square that nobody owns, at any time; then it has a claim less.")
  static void section4ASquareWithAMarkerCanBeOwned(Check check) {
    HopscotchCourt x = Courts.of("court one one;player a claims 9 marker 1;player b marker 1;");
    check.due("claim", x.claim(0, 1), 1);
    check.due("claims", x.player(0, 3), 8);
    check.due("the markers stay", x.square(1, 3), 3);
  }
}
