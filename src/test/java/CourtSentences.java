/** Section 1 of the document: the court. */
final class CourtSentences {
  private static final int SYNTAX = HopscotchCourt.SYNTAX_ERROR;
  private static final int TOO_MANY = HopscotchCourt.TOO_MANY;
  private static final String PLAYERS = "player a;player b;";

  private CourtSentences() {}

  @Sentence("An object is used for at most 512 calls after it has been made")
  static void whatItIs512CallsAreAnswered(Check check) {
    HopscotchCourt x = new HopscotchCourt();
    for (int turn = 1; turn <= 256; turn++) {
      check.due("the turn " + turn, turn % 2 == 0 ? x.pass() : x.turn(0, 0), turn % 2 == 0 ? 0 : 2);
      check.due("turns", x.count(5), turn);
    }
  }

  @Sentence("The court has 2 to 10 rows")
  static void section1OneRowIsTooFew(Check check) {
    check.dueLoad("court one^;" + PLAYERS, SYNTAX);
    check.dueLoad("court two^;" + PLAYERS, SYNTAX);
    check.dueLoad("court^;" + PLAYERS, SYNTAX);
  }

  @Sentence("The court has 2 to 10 rows")
  static void section1TwoRowsAreEnough(Check check) {
    check.dueLoad("court one two;" + PLAYERS, 3);
    check.due("rows", Courts.of("court two one;" + PLAYERS).count(0), 2);
  }

  @Sentence("The court has 2 to 10 rows")
  static void section1TenRowsAreTheMost(Check check) {
    HopscotchCourt x = Courts.of("court one" + " two".repeat(9) + ";" + PLAYERS);
    check.due("rows", x.count(0), 10);
    check.due("squares", x.count(1), 19);
    check.dueLoad("court one" + " two".repeat(9) + " ^two;" + PLAYERS, TOO_MANY);
  }

  @Sentence("numbered from 0")
  static void section1RowsAreNumberedFrom0(Check check) {
    HopscotchCourt x = Courts.of("court one one one;" + PLAYERS);
    check.due("the first row", x.row(0), 1);
    check.due("the last row", x.row(2), 3);
    check.due("row of the first square", x.square(1, 0), 0);
    check.due("row of the last square", x.square(3, 0), 2);
    check.dueIndex("no row -1", () -> x.row(-1));
    check.dueIndex("no row 3", () -> x.row(3));
  }

  @Sentence("each of one or two squares")
  static void section1ARowHasOneOrTwoSquares(Check check) {
    check.dueLoad("court one one;" + PLAYERS, 2);
    check.dueLoad("court two two;" + PLAYERS, 4);
    check.dueLoad("court one ^three one;" + PLAYERS, SYNTAX);
    check.dueLoad("court one ^zero one;" + PLAYERS, SYNTAX);
  }

  @Sentence("Squares are numbered from 1, row by row")
  static void section1SquaresAreNumberedFrom1(Check check) {
    HopscotchCourt x = Courts.of("court two one two;" + PLAYERS);
    int[] rows = {0, 0, 1, 2, 2};
    for (int square = 1; square <= 5; square++) {
      check.due("row of " + square, x.square(square, 0), rows[square - 1]);
    }
    check.dueIndex("no square 0", () -> x.square(0, 0));
    check.dueIndex("no square 6", () -> x.square(6, 0));
  }

  @Sentence("Squares are numbered from 1, row by row")
  static void section1TwentySquaresAreTheMost(Check check) {
    HopscotchCourt x = Courts.of("court" + " two".repeat(10) + ";player a target 20 owns 20 marker 20;player b;");
    check.due("squares", x.count(1), 20);
    check.due("target", x.player(0, 2), 20);
    check.due("marker", x.player(0, 5), 20);
    check.due("owned", x.player(0, 6), 1 << 20);
    check.due("row", x.square(20, 0), 9);
    check.due("side", x.square(20, 1), 1);
    check.dueIndex("no square 21", () -> x.square(21, 0));
  }

  @Sentence("in a row of two from the left one to the right one.")
  static void section1TheLeftSquareComesFirst(Check check) {
    HopscotchCourt x = Courts.of("court two two;player a;player b target 4;");
    check.due("side of 1", x.square(1, 1), 0);
    check.due("side of 2", x.square(2, 1), 1);
    check.due("to the left", x.throwFault(0, 1, 0), 0);
    check.due("to the right", x.throwFault(1, 11, 1), 0);
  }

  @Sentence("Ahead of the row 0 is the start, behind the last row is home; start and home are ground.")
  static void section1StartAndHomeAreGround(Check check) {
    // All rows are closed but for that of the marker on the way back: only ground is landed on.
    HopscotchCourt x = Courts.of("court one one;player a reach 3 balance 1;player b owns 2;");
    check.dueWay(x, 0, false, "2", 9);
    HopscotchCourt y = Courts.of("court one one;player a reach 3 balance 1 target 2;player b owns 1;");
    check.dueWay(y, 0, true, "1 -100", 5);
  }

  @Sentence("For hops the start counts as row -1, home as the row behind the last one.")
  static void section1GroundCountsAsARow(Check check) {
    HopscotchCourt x = Courts.of("court two two;player a reach 1;player b;");
    check.dueWay(x, 0, false, "0 1 2", 3);
    check.dueWay(x, 0, true, "1 0 -100", 3);
    HopscotchCourt y = Courts.of("court one one;player a reach 3 balance 1;player b owns 2;");
    check.due("three rows from start to home", y.cost(0, false), 9);
    y.setPlayer(0, 0, 2);
    check.due("not with a reach of two", y.cost(0, false), -1);
  }

  @Sentence("There are 2 to 6 players")
  static void section1OnePlayerIsTooFew(Check check) {
    check.dueLoad("court one one;player a;^", SYNTAX);
    check.dueLoad("court one one;^", SYNTAX);
  }

  @Sentence("There are 2 to 6 players")
  static void section1TwoPlayersAreEnough(Check check) {
    check.dueLoad("court one one;player a;player b;", 2);
    check.due("players", Courts.of("court one one;player a;player b;").count(2), 2);
  }

  @Sentence("There are 2 to 6 players")
  static void section1SixPlayersAreTheMost(Check check) {
    String six = "court one one;player a;player b;player c;player d;player e;player f;";
    check.due("players", Courts.of(six).count(2), 6);
    check.dueLoad(six + "^player g;", TOO_MANY);
  }

  @Sentence("numbered from 0 as they are told")
  static void section1PlayersAreNumberedFrom0(Check check) {
    HopscotchCourt x = Courts.of("court one one;player c reach 1;player a reach 2;player b reach 3;");
    for (int player = 0; player < 3; player++) {
      check.due("reach of " + player, x.player(player, 0), player + 1);
    }
    check.dueIndex("no player -1", () -> x.player(-1, 0));
    check.dueIndex("no player 3", () -> x.player(3, 0));
  }

  @Sentence("each with a reach (1 to 4)")
  static void section1TheReachIs1To4(Check check) {
    HopscotchCourt x = Courts.of("court one one;player a reach 1;player b reach 4;");
    check.due("reach of a", x.player(0, 0), 1);
    check.due("reach of b", x.player(1, 0), 4);
    check.dueLoad("court one one;player a reach ^0;player b;", HopscotchCourt.VALUE_ERROR);
    check.dueLoad("court one one;player a reach ^5;player b;", HopscotchCourt.VALUE_ERROR);
  }

  @Sentence("a balance (1 to 9)")
  static void section1TheBalanceIs1To9(Check check) {
    HopscotchCourt x = Courts.of("court one one;player a balance 1;player b balance 9;");
    check.due("balance of a", x.player(0, 1), 1);
    check.due("balance of b", x.player(1, 1), 9);
    check.dueLoad("court one one;player a balance ^0;player b;", HopscotchCourt.VALUE_ERROR);
    check.dueLoad("court one one;player a balance ^10;player b;", HopscotchCourt.VALUE_ERROR);
  }

  @Sentence("a target (the number of a square)")
  static void section1TheTargetIsASquare(Check check) {
    HopscotchCourt x = Courts.of("court one two;player a target 1;player b target 3;");
    check.due("target of a", x.player(0, 2), 1);
    check.due("target of b", x.player(1, 2), 3);
    check.dueLoad("court one two;player a target ^0;player b;", HopscotchCourt.VALUE_ERROR);
    check.dueLoad("court one two;player a target ^4;player b;", HopscotchCourt.VALUE_ERROR);
  }

  @Sentence("claims (how many squares it may still own; 0 at first)")
  static void section1ClaimsAre0AtFirst(Check check) {
    HopscotchCourt x = Courts.of("court one one;player a;player b claims 1;");
    check.due("claims of a", x.player(0, 3), 0);
    check.due("a may own none", x.claim(0, 1), -11);
    check.due("b may own one", x.claim(1, 1), 1);
    check.due("but no more", x.claim(1, 2), -11);
  }

  @Sentence("crowns (how often it was through; 0 at first)")
  static void section1CrownsAre0AtFirst(Check check) {
    HopscotchCourt x = Courts.of("court one one;player a target 2 claims 9 owns 1;player b;");
    check.due("crowns of a", x.player(0, 4), 0);
    for (int crowns = 1; crowns <= 3; crowns++) {
      x.setPlayer(0, 2, 2);
      check.due("turn", x.turn(11, 0), 0);
      x.pass();
      check.due("crowns of a", x.player(0, 4), crowns);
    }
    check.due("crowns of b", x.player(1, 4), 0);
  }

  @Sentence("A square is owned by at most one player.")
  static void section1ASquareHasOneOwner(Check check) {
    HopscotchCourt x = Courts.of("court one one;player a owns 1;player b claims 1;");
    check.due("owned already", x.claim(1, 1), -12);
    check.due("owner", x.square(1, 2), 0);
    check.due("squares of b", x.player(1, 6), 0);
    x.release(1);
    check.due("b may now", x.claim(1, 1), 1);
    check.due("owner", x.square(1, 2), 1);
    check.due("squares of a", x.player(0, 6), 0);
    check.dueLoad("court one one;player a owns 1;player b owns ^1;", HopscotchCourt.TWICE);
  }

  @Sentence("A player has a marker on a square, or none there.")
  static void section1APlayerHasOneMarker(Check check) {
    HopscotchCourt x = Courts.of("court one one;player a;player b;");
    check.due("none", x.player(0, 5), -1);
    x.mark(0, 1);
    x.mark(0, 2);
    check.due("markers", x.count(7), 1);
    check.due("on the first square", x.square(1, 3), 0);
    check.due("on the second square", x.square(2, 3), 1);
    x.mark(1, 2);
    check.due("two players' on one square", x.square(2, 3), 3);
    check.due("markers", x.count(7), 2);
  }

  @Sentence("A square is forbidden to a player if another one owns it.")
  static void section1AnotherOnesSquareIsForbidden(Check check) {
    HopscotchCourt x = Courts.of("court one one;player a target 2 owns 2;player b target 2;player c target 1;");
    check.due("to the owner it is not", x.player(0, 2), 2);
    check.due("to another one it is", x.player(1, 2), 1);
    check.due("footing of the owner", x.footing(0, 1), 2);
    check.due("footing of another one", x.footing(1, 1), 0);
    check.due("nobody's is not", x.footing(2, 0), 1);
  }

  @Sentence("The target of a player is never a forbidden square, if some square is not forbidden to it")
  static void section1TheTargetIsNeverForbidden(Check check) {
    HopscotchCourt x = Courts.of("court two two;player a claims 9;player b claims 1;");
    for (int square = 1; square <= 3; square++) {
      x.claim(0, square);
      check.due("target of b behind " + square, x.player(1, 2), square + 1);
      check.due("target of a", x.player(0, 2), 1);
    }
    x.claim(1, 4);
    check.due("its own square at last", x.player(1, 2), 4);
  }

  @Sentence("as soon as its target is forbidden, it becomes the next square, by number and behind the last"
      + " one from 1 on, that is not")
  static void section1AForbiddenTargetBecomesTheNext(Check check) {
    HopscotchCourt x = Courts.of("court two two two;player a claims 1 owns 3 owns 4;player b target 2;player c target 1;");
    x.claim(0, 2);
    check.due("the next three are forbidden", x.player(1, 2), 5);
    check.due("this one is not", x.player(2, 2), 1);
  }

  @Sentence("as soon as its target is forbidden, it becomes the next square, by number and behind the last"
      + " one from 1 on, that is not")
  static void section1BehindTheLastSquareIsTheFirst(Check check) {
    HopscotchCourt x = Courts.of("court two two;player a claims 2 owns 1;player b target 4;player c target 3;");
    x.claim(0, 4);
    check.due("from 1 on, which is forbidden", x.player(1, 2), 2);
    x.claim(0, 3);
    check.due("and so from 3", x.player(2, 2), 2);
    check.due("an own one is none to skip", x.player(0, 2), 1);
  }

  @Sentence("as soon as its target is forbidden, it becomes the next square, by number and behind the last"
      + " one from 1 on, that is not")
  static void section1AFreedTargetStays(Check check) {
    HopscotchCourt x = Courts.of("court one one one;player a claims 1;player b;");
    x.claim(0, 1);
    check.due("forbidden", x.player(1, 2), 2);
    x.release(1);
    check.due("and free again", x.player(1, 2), 2);
  }

  @Sentence("(it is not through by this)")
  static void section1ATargetFromTheFirstOnIsNoCrown(Check check) {
    HopscotchCourt x = Courts.of("court one one;player a claims 1;player b target 2 claims 3;");
    x.claim(0, 2);
    check.due("target", x.player(1, 2), 1);
    check.due("crowns", x.player(1, 4), 0);
    check.due("claims", x.player(1, 3), 3);
  }

  @Sentence("If all squares are forbidden to it, its target is 0.")
  static void section1WithoutAnySquareTheTargetIs0(Check check) {
    HopscotchCourt x = Courts.of("court one one;player a claims 1 owns 1;player b target 2;player c target 2;");
    check.due("one is left", x.player(2, 2), 2);
    x.claim(0, 2);
    check.due("none is left to b", x.player(1, 2), 0);
    check.due("none is left to c", x.player(2, 2), 0);
    check.due("a has both", x.player(0, 2), 1);
    HopscotchCourt y = Courts.of("court one one;player a owns 1;player b owns 2;player c target 2;");
    check.due("none behind a text", y.player(2, 2), 0);
  }
}
