/** Section 3 of the document: hops. */
final class HopSentences {
  private HopSentences() {}

  private static void dueFootings(Check check, HopscotchCourt x, int player, int... footings) {
    for (int row = 0; row < footings.length; row++) {
      check.due("footing of " + player + " in " + row, x.footing(player, row), footings[row]);
    }
  }

  @Sentence("A square is usable for a player if it is not forbidden to it and no marker lies on it.")
  static void section3AForbiddenSquareIsNotUsable(Check check) {
    HopscotchCourt x = Courts.of("court one one;player a owns 1;player b;");
    dueFootings(check, x, 0, 2, 1);
    dueFootings(check, x, 1, 0, 1);
  }

  @Sentence("A square is usable for a player if it is not forbidden to it and no marker lies on it.")
  static void section3ASquareWithAMarkerIsNotUsable(Check check) {
    HopscotchCourt x = Courts.of("court one one one;player a owns 3 marker 1;player b marker 2;player c marker 3;");
    dueFootings(check, x, 0, 0, 0, 0);
    dueFootings(check, x, 1, 0, 0, 0);
    x.mark(0, HopscotchCourt.NONE);
    dueFootings(check, x, 0, 1, 0, 0);
    dueFootings(check, x, 1, 1, 0, 0);
  }

  @Sentence("A row is open for a player if one of its squares at least is usable.")
  static void section3OneUsableSquareOpensARow(Check check) {
    HopscotchCourt x = Courts.of("court two two;player a marker 1;player b marker 4;player c;");
    dueFootings(check, x, 2, 1, 1);
    x.mark(0, 2);
    x.mark(1, 3);
    dueFootings(check, x, 2, 1, 1);
  }

  @Sentence("A row is open for a player if one of its squares at least is usable.")
  static void section3WithoutUsableSquareARowIsClosed(Check check) {
    HopscotchCourt x = Courts.of("court two two two;player a marker 1;player b owns 2 owns 3 owns 4 marker 5;player c marker 6;");
    dueFootings(check, x, 0, 0, 0, 0);
    dueFootings(check, x, 2, 0, 0, 0);
    dueFootings(check, x, 1, 2, 2, 0);
  }

  @Sentence("A landing in a row is firm if both of its squares are usable")
  static void section3OnTwoSquaresALandingIsFirm(Check check) {
    HopscotchCourt x = Courts.of("court two one two;player a;player b marker 5;");
    dueFootings(check, x, 0, 2, 1, 1);
  }

  @Sentence("or a usable one of it is owned by the player")
  static void section3OnAnOwnSquareALandingIsFirm(Check check) {
    HopscotchCourt x = Courts.of("court one two two;player a owns 1 owns 2;player b marker 3;player c owns 5;");
    dueFootings(check, x, 0, 2, 2, 1);
    dueFootings(check, x, 2, 0, 0, 2);
  }

  @Sentence("or a usable one of it is owned by the player")
  static void section3AnOwnSquareThatIsNotUsableIsNotFirm(Check check) {
    HopscotchCourt x = Courts.of("court two one;player a owns 1 owns 3 marker 1;player b marker 3;");
    dueFootings(check, x, 0, 1, 0);
  }

  @Sentence("otherwise it is shaky (on one foot).")
  static void section3OnOneSquareALandingIsShaky(Check check) {
    HopscotchCourt x = Courts.of("court one two two two;player a;player b owns 2 marker 5;player c marker 6;");
    dueFootings(check, x, 0, 1, 1, 1, 1);
  }

  @Sentence("A hop leads from a row to another one, farther in the direction of the way")
  static void section3HopsGoInTheDirectionOfTheWay(Check check) {
    HopscotchCourt x = Courts.of("court one two one two two one;player a reach 3 balance 9 target 5;player b marker 3;");
    int at = -1;
    for (int hop = 0; x.place(0, false, hop) != -1; hop++) {
      int to = x.place(0, false, hop);
      check.due("farther out than " + at + " is " + to, to > at ? 1 : 0, 1);
      at = to;
    }
    check.due("out to home", at, 6);
    for (int hop = 0; x.place(0, true, hop) != -1; hop++) {
      int to = x.place(0, true, hop);
      check.due("farther back than " + at + " is " + to, to < at ? 1 : 0, 1);
      at = to;
    }
    check.due("back to the start", at, HopscotchCourt.START);
  }

  @Sentence("by at least 1 and at most the reach of the player")
  static void section3AHopMayBeAsFarAsTheReach(Check check) {
    // The own marker and others close one row, two and three ahead of home.
    String rows = "court one one one one;player a balance 9 target 4;player b;player c;";
    HopscotchCourt x = Courts.of(rows);
    for (int closed = 1; closed <= 3; closed++) {
      x.setPlayer(0, 0, closed + 1);
      check.due("as far as the reach over " + closed, x.hopFault(0), 0);
      x.setPlayer(0, 0, closed);
      check.due("farther than the reach over " + closed, x.hopFault(0), 4);
      if (closed < 3) {
        x.mark(closed, 4 - closed);
      }
    }
  }

  @Sentence("by at least 1 and at most the reach of the player")
  static void section3AReachOf1LeadsToTheNextRow(Check check) {
    HopscotchCourt x = Courts.of("court two two;player a reach 1 balance 1;player b;");
    check.dueWay(x, 0, false, "0 1 2", 3);
    check.dueWay(x, 0, true, "1 0 -100", 3);
  }

  @Sentence("it lands in an open row, or on ground.")
  static void section3AHopDoesNotLandInAClosedRow(Check check) {
    HopscotchCourt x = Courts.of("court one two one two;player a balance 9 target 6;player b owns 1 marker 2;player c marker 4;");
    check.dueWay(x, 0, false, "1 3 4", 9);
    check.dueWay(x, 0, true, "3 1 -100", 9);
    x.setPlayer(0, 0, 1);
    check.dueWay(x, 0, false, "", -1);
    check.dueWay(x, 0, true, "", -1);
  }

  @Sentence("(Rows in between do not matter.)")
  static void section3HopsLeadOverClosedRows(Check check) {
    HopscotchCourt x = Courts.of("court one one one;player a reach 4 balance 1 target 3;player b owns 1;player c marker 2;");
    check.dueWay(x, 0, false, "3", 16);
    check.dueWay(x, 0, true, "2 -100", 10);
  }

  @Sentence("It costs the square of how many rows it leads on.")
  static void section3AHopCostsItsSquare(Check check) {
    String[] rows = {"court two two;", "court one one;", "court one one;", "court one one one;"};
    String[] out = {"0 1 2", "1 2", "2", "3"};
    int[] costs = {1 + 1 + 1, 4 + 1, 9, 16};
    for (int reach = 1; reach <= 4; reach++) {
      String others = reach == 3 ? " owns 2" : reach == 4 ? " owns 2 owns 3" : "";
      HopscotchCourt x = Courts.of(rows[reach - 1] + "player a reach " + reach + ";player b" + others + ";");
      check.dueWay(x, 0, false, out[reach - 1], costs[reach - 1]);
    }
  }

  @Sentence("On ground, and by a firm landing, the player rests")
  static void section3HomeIsARest(Check check) {
    // Out by 0 and 1, both shaky, and back by 1, shaky again: with home between them.
    HopscotchCourt x = Courts.of("court two one;player a reach 1 balance 2;player b;");
    check.due("both ways", x.hopFault(0), 0);
    check.dueWay(x, 0, false, "0 1 2", 3);
    check.dueWay(x, 0, true, "1 0 -100", 3);
    x.setPlayer(0, 1, 1);
    check.dueWay(x, 0, false, "", -1);
    check.dueWay(x, 0, true, "1 0 -100", 3);
  }

  @Sentence("On ground, and by a firm landing, the player rests")
  static void section3AFirmLandingIsARest(Check check) {
    HopscotchCourt x = Courts.of("court one two one two one;player a reach 1 balance 1 target 5;player b;");
    check.dueWay(x, 0, false, "", -1);
    check.dueWay(x, 0, true, "4 3 2 1 0 -100", 6);
    HopscotchCourt y = Courts.of("court one two one two one;player a reach 1 balance 2 target 5;player b;");
    check.dueWay(y, 0, false, "", -1);
    y.setPlayer(0, 1, 3);
    check.dueWay(y, 0, false, "0 1 2 3 4 5", 6);
  }

  @Sentence("On ground, and by a firm landing, the player rests")
  static void section3AnOwnSquareIsARest(Check check) {
    HopscotchCourt x = Courts.of("court one one one two;player a reach 1 balance 1 target 4 owns 2 owns 5;player b;");
    check.dueWay(x, 0, false, "0 1 2 3 4", 5);
    x.release(2);
    check.dueWay(x, 0, false, "", -1);
    x.setPlayer(0, 1, 3);
    check.dueWay(x, 0, false, "0 1 2 3 4", 5);
  }

  @Sentence("it may make at most as many shaky landings, one behind the other without a rest, as its balance.")
  static void section3AsManyShakyLandingsAsTheBalance(Check check) {
    HopscotchCourt x = Courts.of("court one one one one;player a balance 3 target 4;player b;");
    check.dueWay(x, 0, false, "0 1 2 4", 7);
    x.setPlayer(0, 1, 2);
    check.dueWay(x, 0, false, "0 2 4", 9);
    x.setPlayer(0, 1, 1);
    check.dueWay(x, 0, false, "", -1);
    x.setPlayer(0, 1, 4);
    check.dueWay(x, 0, true, "3 2 1 0 -100", 5);
    x.setPlayer(0, 1, 3);
    check.dueWay(x, 0, true, "3 2 1 -100", 7);
  }

  @Sentence("it may make at most as many shaky landings, one behind the other without a rest, as its balance.")
  static void section3NineShakyLandingsAreTheMost(Check check) {
    HopscotchCourt x = Courts.of("court" + " one".repeat(10) + ";player a balance 9 target 10;player b;");
    check.dueWay(x, 0, false, "0 1 2 3 4 5 6 7 8 10", 13);
    // Ten rows back with nine landings: one hop of two, as late as it can be.
    check.dueWay(x, 0, true, "9 8 7 6 5 4 3 2 1 -100", 13);
    x.setPlayer(0, 1, 8);
    check.dueWay(x, 0, false, "0 1 2 3 4 5 6 8 10", 15);
    x.setPlayer(0, 0, 1);
    check.dueWay(x, 0, true, "", -1);
  }

  @Sentence("it may make at most as many shaky landings, one behind the other without a rest, as its balance.")
  static void section3ACheaperWayIsBarredByTheBalance(Check check) {
    // Row 1 is firm: with a rest there all rows can be landed in, without it one is left out.
    HopscotchCourt x = Courts.of("court one two one one;player a balance 1 target 5;player b;");
    check.dueWay(x, 0, false, "0 1 2 4", 7);
    x.mark(1, 2);
    check.dueWay(x, 0, false, "", -1);
    x.setPlayer(0, 1, 2);
    check.dueWay(x, 0, false, "0 2 4", 9);
  }

  @Sentence("The way out leads from the start to home; the way back leads from home to the start.")
  static void section3TheWaysLeadFromGroundToGround(Check check) {
    HopscotchCourt x = Courts.of("court two two two;player a reach 1;player b;");
    check.due("the first place out", x.place(0, false, 0), 0);
    check.due("the last place out", x.place(0, false, 3), 3);
    check.due("none behind it", x.place(0, false, 4), -1);
    check.due("the first place back", x.place(0, true, 0), 2);
    check.due("the last place back", x.place(0, true, 3), HopscotchCourt.START);
    check.due("none behind it", x.place(0, true, 4), -1);
  }

  @Sentence("The way back has to land in the row behind that of the own marker")
  static void section3TheWayBackLandsBehindTheMarker(Check check) {
    // By 1 it would cost 4 and 4, but the marker lies there until row 2 was landed in.
    HopscotchCourt x = Courts.of("court one one one;player a reach 3 balance 1 target 2;player b;");
    check.dueWay(x, 0, true, "2 -100", 10);
    // By 0 and 1 it would be cheaper too, with a landing more.
    HopscotchCourt y = Courts.of("court one one one one;player a reach 4 balance 1 target 1;player b;");
    check.dueWay(y, 0, true, "1 -100", 13);
  }

  @Sentence("The way back has to land in the row behind that of the own marker")
  static void section3AClosedRowBehindTheMarkerBarsTheWay(Check check) {
    HopscotchCourt x = Courts.of("court one one one;player a reach 4 balance 9;player b marker 2;");
    check.dueWay(x, 0, false, "2 3", 10);
    check.dueWay(x, 0, true, "", -1);
    check.due("no way back", x.hopFault(0), 5);
    HopscotchCourt y = Courts.of("court one one one;player a reach 4 balance 9;player b owns 2;");
    check.dueWay(y, 0, true, "", -1);
  }

  @Sentence("(on home, if the marker is in the last row: it begins there)")
  static void section3HomeIsBehindTheLastRow(Check check) {
    HopscotchCourt x = Courts.of("court one one one;player a reach 4 balance 1 target 3;player b marker 2;player c;");
    check.dueWay(x, 0, true, "2 -100", 10);
    x.mark(1, 3);
    // The row of the marker is closed by another one's: from home at once over it.
    check.dueWay(x, 0, true, "1 -100", 8);
    x.mark(2, 2);
    check.dueWay(x, 0, true, "0 -100", 10);
    HopscotchCourt y = Courts.of("court one one one;player a reach 4 target 3;player b owns 1 marker 3;player c marker 2;");
    check.dueWay(y, 0, true, "-100", 16);
  }

  @Sentence("There the marker is picked up: from then on it does not lie on its square any more.")
  static void section3ThePickedUpMarkerLiesNoMore(Check check) {
    HopscotchCourt x = Courts.of("court two one;player a reach 1 balance 1;player b;");
    // On the way out row 0 is shaky, by the marker; on the way back both squares are usable.
    check.dueWay(x, 0, true, "1 0 -100", 3);
    HopscotchCourt y = Courts.of("court one one;player a;player b;");
    check.dueWay(y, 0, false, "1 2", 5);
    check.dueWay(y, 0, true, "1 0 -100", 3);
    check.due("turn", y.turn(1, 0), 0);
    check.dueLandings(y, 1, 2);
  }

  @Sentence("There the marker is picked up: from then on it does not lie on its square any more.")
  static void section3AnotherOnesMarkerIsNotPickedUp(Check check) {
    HopscotchCourt x = Courts.of("court one one;player a;player b marker 1;");
    check.dueWay(x, 0, true, "1 -100", 5);
    check.due("turn", x.turn(1, 0), 0);
    check.due("it lies there", x.player(1, 5), 1);
    check.dueLandings(x, 0, 2);
  }

  @Sentence("Each way is the one with the least cost")
  static void section3TheCheapestWayIsTaken(Check check) {
    HopscotchCourt x = Courts.of("court one two one two one;player a reach 4 balance 9 target 7;player b;");
    check.dueWay(x, 0, false, "0 1 2 3 5", 8);
    check.dueWay(x, 0, true, "4 3 2 1 0 -100", 6);
    // By 0 and 1 there would be two shaky landings, one behind the other.
    HopscotchCourt y = Courts.of("court one one two two;player a reach 4 balance 1 target 6;player b;");
    check.dueWay(y, 0, false, "0 2 3 4", 7);
  }

  @Sentence("of several the one that hops less far where they first differ.")
  static void section3OfCheapestWaysTheOneWithTheShorterHop(Check check) {
    HopscotchCourt x = Courts.of("court one one one one;player a reach 3 balance 1 target 4;player b;");
    check.dueWay(x, 0, false, "1 4", 13);
    check.dueWay(x, 0, true, "2 -100", 13);
  }

  @Sentence("of several the one that hops less far where they first differ.")
  static void section3WaysDifferFirstFarFromWhereTheyBegin(Check check) {
    // All rows are shaky, two hops of two are needed out and one back: they come as late as they can.
    HopscotchCourt x = Courts.of("court" + " one".repeat(7) + ";player a reach 2 balance 5 target 7;player b;");
    check.dueWay(x, 0, false, "0 1 2 3 5 7", 12);
    check.dueWay(x, 0, true, "6 5 4 3 1 -100", 12);
  }
}
