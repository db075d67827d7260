/** Promises 22 to 31: changes. */
final class ChangePromises {
  private static final int[] WRONG_PLAYERS = {Integer.MIN_VALUE, -1, 2, 6, Integer.MAX_VALUE};
  private static final int[] WRONG_SQUARES = {Integer.MIN_VALUE, -2, 0, 3, 20, 21, Integer.MAX_VALUE};

  private ChangePromises() {}

  @Sentence("The player whose turn it is throws, and hops.")
  static void promise22TheTurnIsThatOfThePlayer(Check check) {
    HopscotchCourt x = Courts.of("court one one;player a;player b target 2;");
    check.due("a", x.turn(1, 0), 0);
    check.due("a hopped", x.player(0, 2), 2);
    check.dueLandings(x, 1, 2);
    check.due("b on the target of a", x.turn(1, 0), 3);
    check.due("a on its target", x.turn(11, 0), 0);
    check.due("a is through", x.player(0, 4), 1);
    check.due("b is not", x.player(1, 4), 0);
  }

  @Sentence("Returns the fault; 0 without one.")
  static void promise22TheFaultIs0To5(Check check) {
    String[] texts = {"", "", "", "", " reach 1", " reach 3"};
    int[] powers = {1, 20, 10, 11, 1, 1};
    for (int fault = 0; fault <= 5; fault++) {
      HopscotchCourt x = Courts.of("court one one;player a" + texts[fault] + ";player b" + (fault == 5 ? " marker 2;" : ";"));
      check.due("fault", x.turn(powers[fault], 0), fault);
      check.due("is told of the player", x.player(0, 9), fault);
      check.due("and counted", x.player(0, 8), fault == 0 ? 0 : 1);
    }
  }

  @Sentence("Throws `IllegalArgumentException` if power or side is out of range")
  static void promise22AWrongThrowIsRefused(Check check) {
    HopscotchCourt x = new HopscotchCourt();
    for (int power : new int[] {Integer.MIN_VALUE, -1, 200, Integer.MAX_VALUE}) {
      check.dueArgument("power " + power, () -> x.turn(power, 0));
    }
    for (int side : new int[] {Integer.MIN_VALUE, -1, 2, Integer.MAX_VALUE}) {
      check.dueArgument("side " + side, () -> x.turn(1, side));
    }
    check.due("no turn was made", x.count(5), 0);
    check.due("the largest", x.turn(199, 1), 1);
    check.due("the least", x.turn(0, 0), 2);
  }

  @Sentence("The player whose turn it is passes: its turn is over (its marker stays where it lies).")
  static void promise23TheMarkerStays(Check check) {
    HopscotchCourt x = Courts.of("court one one;player a marker 2;player b;");
    x.pass();
    check.due("marker", x.player(0, 5), 2);
    check.due("turns of a", x.player(0, 7), 1);
    check.due("faults of a", x.player(0, 8), 0);
    check.dueCounts(x, 2, 2, 2, 0, 1, 1, 0, 1, 0, 0, -1);
  }

  @Sentence("Returns the player whose turn it is then.")
  static void promise23BehindTheLastPlayerComesTheFirst(Check check) {
    HopscotchCourt x = Courts.of("court one one;player a;player b;player c;");
    int[] next = {1, 2, 0, 1};
    for (int player : next) {
      check.due("next", x.pass(), player);
      check.due("whose turn it is", x.count(4), player);
    }
  }

  @Sentence("A player owns a square from now on.")
  static void promise24TheSquareIsOwned(Check check) {
    HopscotchCourt x = Courts.of("court one one;player a claims 1;player b;");
    x.claim(0, 1);
    check.due("owner", x.square(1, 2), 0);
    check.due("squares", x.player(0, 6), 1 << 1);
    check.due("claims", x.player(0, 3), 0);
    check.due("forbidden to b", x.footing(1, 0), 0);
    check.due("firm for a", x.footing(0, 0), 2);
    x.turn(199, 0);
    check.due("a turn later", x.square(1, 2), 0);
  }

  @Sentence("Returns how many squares it owns then; -11 or -12 if it is refused.")
  static void promise24TheNumberOfItsSquaresIsReturned(Check check) {
    HopscotchCourt x = Courts.of("court" + " two".repeat(10) + ";player a claims 9 owns 20;player b claims 1;");
    for (int square = 1; square <= 9; square++) {
      check.due("with those of before", x.claim(0, square), square + 1);
    }
    check.due("only its own ones", x.claim(1, 10), 1);
    check.due("the claims are used", x.claim(0, 11), -11);
  }

  @Sentence("-11 or -12 if it is refused.")
  static void promise24ARefusedClaimOwnsNothing(Check check) {
    HopscotchCourt x = Courts.of("court one one;player a claims 9;player b claims 1 owns 2;player c;");
    String before = Courts.told(x);
    check.due("without claim", x.claim(2, 1), -11);
    check.due("owned by another", x.claim(0, 2), -12);
    check.due("owned by itself", x.claim(1, 2), -12);
    check.due("without claim, and owned", x.claim(2, 2), -11);
    check.dueText("nothing was changed", Courts.told(x), before);
  }

  @Sentence("Throws `IndexOutOfBoundsException` if the player or the square does not exist")
  static void promise24AWrongPlayerOrSquareIsRefused(Check check) {
    HopscotchCourt x = Courts.of("court one one;player a claims 1;player b;");
    for (int player : WRONG_PLAYERS) {
      check.dueIndex("player " + player, () -> x.claim(player, 1));
    }
    for (int square : WRONG_SQUARES) {
      check.dueIndex("square " + square, () -> x.claim(0, square));
      check.dueIndex("square " + square + " without claim", () -> x.claim(1, square));
      check.dueIndex("both wrong", () -> x.claim(2, square));
    }
    check.due("square -1", x.count(6), 0);
    check.dueIndex("square -1", () -> x.claim(0, -1));
  }

  @Sentence("A square is not owned any more (its owner gets no claim for it).")
  static void promise25TheOwnerGetsNoClaim(Check check) {
    HopscotchCourt x = Courts.of("court one one;player a claims 1 owns 2;player b;");
    check.due("release", x.release(2), 0);
    check.due("owner", x.square(2, 2), -1);
    check.due("squares", x.player(0, 6), 0);
    check.due("claims", x.player(0, 3), 1);
    check.due("owned squares", x.count(6), 0);
  }

  @Sentence("Targets stay")
  static void promise25TargetsStay(Check check) {
    HopscotchCourt x = Courts.of("court one one one;player a owns 1 owns 2;player b;player c target 3;");
    check.due("target of b", x.player(1, 2), 3);
    x.release(1);
    x.release(2);
    check.due("target of a", x.player(0, 2), 1);
    check.due("target of b", x.player(1, 2), 3);
    check.due("target of c", x.player(2, 2), 3);
  }

  @Sentence("but a target that was 0 becomes the first square that is not forbidden.")
  static void promise25ATargetOf0BecomesTheFirstFreeSquare(Check check) {
    HopscotchCourt x = Courts.of("court one one one;player a owns 1 owns 3;player b owns 2;player c target 3;player d;");
    check.due("target of c", x.player(2, 2), 0);
    x.release(2);
    check.due("target of c", x.player(2, 2), 2);
    check.due("target of d", x.player(3, 2), 2);
    check.due("target of b, which was not 0", x.player(1, 2), 2);
    check.due("crowns of c", x.player(2, 4), 0);
    x.release(1);
    check.due("that stays", x.player(2, 2), 2);
  }

  @Sentence("Returns its owner before; -13 if it is refused.")
  static void promise25TheOwnerBeforeIsReturned(Check check) {
    HopscotchCourt x = Courts.of("court one one;player a owns 2;player b owns 1;");
    check.due("b", x.release(1), 1);
    check.due("a", x.release(2), 0);
    check.due("nobody", x.release(2), -13);
    check.due("nobody", x.release(1), -13);
  }

  @Sentence("Throws `IndexOutOfBoundsException` if the square does not exist")
  static void promise25AWrongSquareIsRefused(Check check) {
    HopscotchCourt x = Courts.of("court one one;player a owns 1 owns 2;player b;");
    for (int square : WRONG_SQUARES) {
      check.dueIndex("square " + square, () -> x.release(square));
    }
    check.dueIndex("square -1", () -> x.release(-1));
    check.due("owned squares", x.count(6), 2);
  }

  @Sentence("Sets the drift.")
  static void promise26TheDriftIsSet(Check check) {
    HopscotchCourt x = new HopscotchCourt();
    for (int drift = -9; drift <= 9; drift++) {
      x.setDrift(drift);
      check.due("drift", x.count(3), drift);
      check.due("by a throw", x.throwFault(0, 1 - drift < 0 ? 0 : 1 - drift, 0), 0);
    }
  }

  @Sentence("Returns the drift before, plus 9.")
  static void promise26TheDriftBeforeIsReturned(Check check) {
    HopscotchCourt x = new HopscotchCourt();
    check.due("behind 0", x.setDrift(-9), 9);
    check.due("behind -9", x.setDrift(9), 0);
    check.due("behind 9", x.setDrift(9), 18);
    check.due("behind 9", x.setDrift(0), 18);
  }

  @Sentence("Throws `IllegalArgumentException` if drift is out of range")
  static void promise26AWrongDriftIsRefused(Check check) {
    HopscotchCourt x = new HopscotchCourt();
    x.setDrift(2);
    for (int drift : new int[] {Integer.MIN_VALUE, -10, 10, Integer.MAX_VALUE}) {
      check.dueArgument("drift " + drift, () -> x.setDrift(drift));
    }
    check.due("drift", x.count(3), 2);
  }

  @Sentence("Sets a number of a player.")
  static void promise27OneNumberOfOnePlayerIsSet(Check check) {
    int[] values = {4, 9, 2, 9};
    for (int what = 0; what <= 3; what++) {
      HopscotchCourt x = new HopscotchCourt();
      x.setPlayer(1, what, values[what]);
      for (int other = 0; other <= 9; other++) {
        check.due("number " + other, x.player(1, other),
            other == what ? values[what] : new HopscotchCourt().player(1, other));
        check.due("of the other player", x.player(0, other), new HopscotchCourt().player(0, other));
      }
    }
  }

  private static void dueRange(Check check, int what, int low, int high) {
    HopscotchCourt x = Courts.of("court one two;player a;player b;");
    for (int value = low; value <= high; value++) {
      x.setPlayer(0, what, value);
      check.due("number " + what, x.player(0, what), value);
    }
    for (int value : new int[] {Integer.MIN_VALUE, -100, -1, low - 1, high + 1, 100, Integer.MAX_VALUE}) {
      check.dueArgument(what + " set to " + value, () -> x.setPlayer(0, what, value));
    }
    check.due("number " + what, x.player(0, what), high);
  }

  @Sentence("0: its reach")
  static void promise27TheReachIs1To4(Check check) {
    dueRange(check, 0, 1, 4);
  }

  @Sentence("1: its balance")
  static void promise27TheBalanceIs1To9(Check check) {
    dueRange(check, 1, 1, 9);
  }

  @Sentence("2: its target (which becomes another one if it is forbidden to it, as told in section 1)")
  static void promise27TheTargetIsASquare(Check check) {
    dueRange(check, 2, 1, 3);
  }

  @Sentence("(which becomes another one if it is forbidden to it, as told in section 1)")
  static void promise27AForbiddenTargetBecomesAnother(Check check) {
    HopscotchCourt x = Courts.of("court two two;player a;player b owns 2 owns 4;");
    check.due("before", x.setPlayer(0, 2, 2), 1);
    check.due("the next", x.player(0, 2), 3);
    check.due("before", x.setPlayer(0, 2, 4), 3);
    check.due("behind the last one the first", x.player(0, 2), 1);
    check.due("no crown", x.player(0, 4), 0);
    check.due("an own one", x.setPlayer(1, 2, 4), 1);
    check.due("stays", x.player(1, 2), 4);
    HopscotchCourt y = Courts.of("court one one;player a owns 1;player b owns 2;player c;");
    check.due("before", y.setPlayer(2, 2, 1), 0);
    check.due("all are forbidden", y.player(2, 2), 0);
  }

  @Sentence("3: its claims (0 to 9)")
  static void promise27TheClaimsAre0To9(Check check) {
    dueRange(check, 3, 0, 9);
  }

  @Sentence("Returns the number before.")
  static void promise27TheNumberBeforeIsReturned(Check check) {
    HopscotchCourt x = Courts.of("court one two;player a reach 3 balance 8 target 2 claims 7;player b;");
    check.due("reach", x.setPlayer(0, 0, 1), 3);
    check.due("reach", x.setPlayer(0, 0, 1), 1);
    check.due("balance", x.setPlayer(0, 1, 2), 8);
    check.due("balance", x.setPlayer(0, 1, 2), 2);
    check.due("target", x.setPlayer(0, 2, 3), 2);
    check.due("target", x.setPlayer(0, 2, 3), 3);
    check.due("claims", x.setPlayer(0, 3, 0), 7);
    check.due("claims", x.setPlayer(0, 3, 0), 0);
  }

  @Sentence("Throws `IndexOutOfBoundsException` if the player does not exist")
  static void promise27AWrongPlayerIsRefused(Check check) {
    HopscotchCourt x = new HopscotchCourt();
    for (int player : WRONG_PLAYERS) {
      for (int what = -1; what <= 4; what++) {
        int number = what;
        check.dueIndex("player " + player, () -> x.setPlayer(player, number, 1));
      }
    }
  }

  @Sentence("Throws `IllegalArgumentException` for any other what, or if value is out of its range")
  static void promise27AnyOtherWhatIsRefused(Check check) {
    HopscotchCourt x = new HopscotchCourt();
    for (int what : new int[] {Integer.MIN_VALUE, -1, 4, 5, 6, 7, 8, 9, 10, Integer.MAX_VALUE}) {
      for (int value = 0; value <= 1; value++) {
        int one = value;
        check.dueArgument("what " + what, () -> x.setPlayer(0, what, one));
      }
    }
    check.dueText("nothing was changed", Courts.told(x), Courts.told(new HopscotchCourt()));
  }

  @Sentence("Lays the marker of a player on a square by hand, or takes it away.")
  static void promise28TheMarkerIsLaid(Check check) {
    HopscotchCourt x = Courts.of("court one one;player a;player b owns 2;");
    x.mark(0, 2);
    check.due("on a forbidden square too", x.player(0, 5), 2);
    x.mark(1, 2);
    check.due("on one with a marker too", x.square(2, 3), 3);
    x.mark(0, 1);
    check.due("elsewhere", x.square(2, 3), 2);
    check.due("the target stays", x.player(0, 2), 1);
    check.due("the turn stays", x.count(4) + x.count(5), 0);
  }

  @Sentence("NONE takes it away")
  static void promise28NoneTakesTheMarkerAway(Check check) {
    HopscotchCourt x = Courts.of("court one one;player a marker 2;player b marker 2;");
    x.mark(0, HopscotchCourt.NONE);
    check.due("away", x.player(0, 5), -1);
    check.due("that of b is there", x.square(2, 3), 2);
    check.due("none to take away", x.mark(0, HopscotchCourt.NONE), -1);
    check.due("markers", x.count(7), 1);
  }

  @Sentence("Returns the square on which it lay before (NONE).")
  static void promise28TheSquareBeforeIsReturned(Check check) {
    HopscotchCourt x = new HopscotchCourt();
    check.due("none", x.mark(0, 1), -1);
    check.due("1", x.mark(0, 2), 1);
    check.due("2", x.mark(0, 2), 2);
    check.due("2", x.mark(0, -1), 2);
    check.due("none", x.mark(0, -1), -1);
  }

  @Sentence("Throws `IndexOutOfBoundsException` if the player or the square (other than NONE) does not exist")
  static void promise28AWrongPlayerOrSquareIsRefused(Check check) {
    HopscotchCourt x = Courts.of("court one one;player a marker 1;player b;");
    for (int player : WRONG_PLAYERS) {
      check.dueIndex("player " + player, () -> x.mark(player, 1));
      check.dueIndex("player " + player, () -> x.mark(player, HopscotchCourt.NONE));
    }
    for (int square : WRONG_SQUARES) {
      check.dueIndex("square " + square, () -> x.mark(0, square));
      check.dueIndex("both wrong", () -> x.mark(2, square));
    }
    check.due("the marker stays", x.player(0, 5), 1);
  }

  @Sentence("Undoes the latest change that has not been undone.")
  static void promise29TheLatestChangeIsUndone(Check check) {
    HopscotchCourt x = new HopscotchCourt();
    x.setDrift(1);
    x.setDrift(2);
    x.undo();
    check.due("2 is undone", x.count(3), 1);
    x.setDrift(3);
    x.undo();
    check.due("3 is undone", x.count(3), 1);
    x.undo();
    check.due("1 is undone", x.count(3), 0);
  }

  @Sentence("Returns the number of changes that can still be undone.")
  static void promise29TheNumberThatIsLeftIsReturned(Check check) {
    HopscotchCourt x = new HopscotchCourt();
    for (int changes = 1; changes <= 20; changes++) {
      x.setDrift(changes % 10);
      check.due("with " + changes, x.undo(), Math.min(changes, 8) - 1);
      x.setDrift(changes % 10);
    }
  }

  @Sentence("Throws `IllegalStateException` if there is no change to undo")
  static void promise29WithoutChangeThereIsNoUndo(Check check) {
    HopscotchCourt x = new HopscotchCourt();
    check.dueState("a new object", () -> x.undo());
    x.pass();
    x.undo();
    check.dueState("all is undone", () -> x.undo());
    for (int change = 0; change < 10; change++) {
      x.pass();
    }
    for (int change = 0; change < 8; change++) {
      x.undo();
    }
    check.dueState("eight are undone", () -> x.undo());
    check.due("two turns stay", x.count(5), 2);
  }

  @Sentence("Saves everything that undo brings back")
  static void promise30EverythingIsSaved(Check check) {
    HopscotchCourt x = Courts.of("court one two;drift 2;player abc target 3 claims 8 owns 1 marker 2;player b;");
    x.turn(10, 1);
    x.turn(0, 0);
    x.mark(0, 2);
    String before = Courts.told(x);
    String written = Courts.written(x);
    x.save(1);
    Courts.load(x, "court two two two;drift 5;player z owns 6;player y;player x;");
    x.restore(1);
    check.dueText("restored", Courts.told(x), before);
    check.dueText("the names", Courts.written(x), written);
  }

  @Sentence("but not what can be undone")
  static void promise30WhatCanBeUndoneIsNotSaved(Check check) {
    HopscotchCourt x = new HopscotchCourt();
    x.setDrift(1);
    x.setDrift(2);
    x.save(0);
    x.undo();
    x.undo();
    x.restore(0);
    check.due("drift", x.count(3), 2);
    check.due("only the restoring can be undone", x.undo(), 0);
    check.due("drift", x.count(3), 0);
    check.dueState("no more", () -> x.undo());
  }

  @Sentence("in place of what was saved there.")
  static void promise30ALaterSaveReplacesTheEarlier(Check check) {
    HopscotchCourt x = new HopscotchCourt();
    x.setDrift(1);
    x.save(0);
    x.save(1);
    x.setDrift(2);
    x.save(0);
    x.restore(0);
    check.due("slot 0", x.count(3), 2);
    x.restore(1);
    check.due("slot 1", x.count(3), 1);
  }

  private static long save(HopscotchCourt x, int slot) {
    x.save(slot);
    return 0;
  }

  @Sentence("Throws `IndexOutOfBoundsException` if there is no such slot")
  static void promise30AWrongSlotIsRefused(Check check) {
    HopscotchCourt x = new HopscotchCourt();
    for (int slot : new int[] {Integer.MIN_VALUE, -1, 2, 3, Integer.MAX_VALUE}) {
      check.dueIndex("slot " + slot, () -> save(x, slot));
    }
    check.dueState("slot 0 stays empty", () -> x.restore(0));
    check.dueState("slot 1 stays empty", () -> x.restore(1));
  }

  @Sentence("Brings back what was saved, which stays saved.")
  static void promise31WhatWasSavedStaysSaved(Check check) {
    HopscotchCourt x = Courts.of("court one one;player a claims 9;player b;");
    x.save(0);
    String before = Courts.told(x);
    for (int time = 0; time < 3; time++) {
      x.claim(0, 1);
      x.mark(1, 2);
      x.turn(1, 0);
      x.restore(0);
      check.dueText("restored", Courts.told(x), before);
    }
    x.undo();
    check.due("the claim is there", x.square(1, 2), 0);
    x.restore(0);
    check.dueText("restored", Courts.told(x), before);
  }

  @Sentence("Returns the player whose turn it is then.")
  static void promise31WhoseTurnItIsIsReturned(Check check) {
    HopscotchCourt x = Courts.of("court one one;player a;player b;player c;");
    x.pass();
    x.save(0);
    x.pass();
    x.save(1);
    x.pass();
    check.due("slot 0", x.restore(0), 1);
    check.due("slot 1", x.restore(1), 2);
  }

  @Sentence("Throws `IndexOutOfBoundsException` if there is no such slot")
  static void promise31AWrongSlotIsRefused(Check check) {
    HopscotchCourt x = new HopscotchCourt();
    x.save(0);
    x.save(1);
    for (int slot : new int[] {Integer.MIN_VALUE, -1, 2, 3, Integer.MAX_VALUE}) {
      check.dueIndex("slot " + slot, () -> x.restore(slot));
    }
    check.dueState("no change", () -> x.undo());
  }

  @Sentence("Throws `IllegalStateException` if nothing is saved there")
  static void promise31AnEmptySlotIsRefused(Check check) {
    HopscotchCourt x = new HopscotchCourt();
    x.save(1);
    check.dueState("slot 0", () -> x.restore(0));
    check.due("slot 1", x.restore(1), 0);
    HopscotchCourt y = new HopscotchCourt();
    y.save(0);
    check.dueState("slot 1", () -> y.restore(1));
    check.due("slot 0", y.restore(0), 0);
  }
}
