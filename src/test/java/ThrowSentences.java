/** Section 2 of the document: throws. */
final class ThrowSentences {
  private static final String COURT = "court one two one;player a;player b target 2;player c target 3;player d target 4;";

  private ThrowSentences() {}

  /** The fault of a throw of each of the four players, by the power and the side. */
  private static void dueFaults(Check check, HopscotchCourt x, int power, int side, int... faults) {
    for (int player = 0; player < 4; player++) {
      check.due(player + " with " + power + " to " + side, x.throwFault(player, power, side), faults[player]);
    }
  }

  @Sentence("A throw has a power (0 to 199)")
  static void section2ThePowerIs0To199(Check check) {
    HopscotchCourt x = Courts.of(COURT);
    dueFaults(check, x, 0, 0, 2, 2, 2, 2);
    dueFaults(check, x, 199, 0, 1, 1, 1, 1);
    check.due("turn 0", x.turn(0, 0), 2);
    check.due("turn 199", x.turn(199, 0), 1);
    check.dueArgument("turn -1", () -> x.turn(-1, 0));
    check.dueArgument("turn 200", () -> x.turn(200, 0));
  }

  @Sentence("and a side (0 left, 1 right)")
  static void section2TheSideIsLeftOrRight(Check check) {
    HopscotchCourt x = Courts.of(COURT);
    dueFaults(check, x, 11, 0, 3, 0, 3, 3);
    dueFaults(check, x, 11, 1, 3, 3, 0, 3);
    check.dueArgument("side 2", () -> x.throwFault(0, 11, 2));
    check.dueArgument("side -1", () -> x.throwFault(0, 11, -1));
  }

  @Sentence("There is a drift (-9 to 9).")
  static void section2TheDriftIsUpTo9(Check check) {
    HopscotchCourt x = Courts.of("court one one;drift 9;player a;player b target 2;");
    check.due("drift", x.count(3), 9);
    x.setDrift(-9);
    check.due("drift", x.count(3), -9);
    check.dueArgument("10", () -> x.setDrift(10));
    check.dueArgument("-10", () -> x.setDrift(-10));
    check.dueLoad("court one one;drift ^10;player a;player b;", HopscotchCourt.VALUE_ERROR);
    check.dueLoad("court one one;drift -^10;player a;player b;", HopscotchCourt.VALUE_ERROR);
  }

  @Sentence("The marker goes as far as the power and the drift together")
  static void section2ThePowerAndTheDriftAreASum(Check check) {
    HopscotchCourt x = Courts.of(COURT);
    x.setDrift(9);
    dueFaults(check, x, 0, 0, 0, 3, 3, 3);
    dueFaults(check, x, 2, 0, 3, 0, 3, 3);
    x.setDrift(-9);
    dueFaults(check, x, 10, 0, 0, 3, 3, 3);
    dueFaults(check, x, 20, 1, 3, 3, 0, 3);
    check.due("turn with the drift", x.turn(18, 0), 0);
  }

  @Sentence("with f this sum, it lands in the row f / 10, rounded down")
  static void section2TheRowIsATenthRoundedDown(Check check) {
    HopscotchCourt x = Courts.of(COURT);
    dueFaults(check, x, 1, 0, 0, 3, 3, 3);
    dueFaults(check, x, 9, 0, 0, 3, 3, 3);
    dueFaults(check, x, 11, 0, 3, 0, 3, 3);
    dueFaults(check, x, 19, 0, 3, 0, 3, 3);
    dueFaults(check, x, 21, 0, 3, 3, 3, 0);
    dueFaults(check, x, 29, 0, 3, 3, 3, 0);
  }

  @Sentence("on its only square, or on that of the side.")
  static void section2ARowOfOneHasNoSides(Check check) {
    HopscotchCourt x = Courts.of(COURT);
    dueFaults(check, x, 5, 1, 0, 3, 3, 3);
    dueFaults(check, x, 25, 1, 3, 3, 3, 0);
    check.due("turn to the right", x.turn(5, 1), 0);
    check.due("behind it", x.player(0, 2), 2);
  }

  @Sentence("Faults of a throw, the first one that applies")
  static void section2OutComesAheadOfALine(Check check) {
    HopscotchCourt x = Courts.of(COURT);
    // No row 3, on a line, and not the target: all three faults apply.
    dueFaults(check, x, 30, 0, 1, 1, 1, 1);
    dueFaults(check, x, 40, 0, 1, 1, 1, 1);
    check.due("turn", x.turn(30, 0), 1);
  }

  @Sentence("Faults of a throw, the first one that applies")
  static void section2ALineComesAheadOfTheTarget(Check check) {
    HopscotchCourt x = Courts.of(COURT);
    dueFaults(check, x, 10, 0, 2, 2, 2, 2);
    dueFaults(check, x, 20, 0, 2, 2, 2, 2);
    check.due("turn", x.turn(20, 0), 2);
  }

  @Sentence("1 it is out (f is below 0")
  static void section2Below0IsOut(Check check) {
    HopscotchCourt x = Courts.of(COURT);
    x.setDrift(-9);
    dueFaults(check, x, 0, 0, 1, 1, 1, 1);
    dueFaults(check, x, 8, 0, 1, 1, 1, 1);
    dueFaults(check, x, 9, 0, 2, 2, 2, 2);
    x.setDrift(-1);
    dueFaults(check, x, 0, 1, 1, 1, 1, 1);
    dueFaults(check, x, 1, 1, 2, 2, 2, 2);
  }

  @Sentence("or there is no such row)")
  static void section2BehindTheLastRowIsOut(Check check) {
    HopscotchCourt x = Courts.of(COURT);
    dueFaults(check, x, 29, 0, 3, 3, 3, 0);
    dueFaults(check, x, 30, 0, 1, 1, 1, 1);
    dueFaults(check, x, 31, 0, 1, 1, 1, 1);
    HopscotchCourt y = Courts.of("court" + " one".repeat(10) + ";drift 9;player a target 10;player b;");
    check.due("the last row of ten", y.throwFault(0, 90, 0), 0);
    check.due("no row behind it", y.throwFault(0, 91, 0), 1);
    check.due("as far as it goes", y.throwFault(0, 199, 1), 1);
  }

  @Sentence("2 it is on a line (f can be divided by 10)")
  static void section2TensAreLines(Check check) {
    HopscotchCourt x = Courts.of(COURT);
    dueFaults(check, x, 0, 0, 2, 2, 2, 2);
    dueFaults(check, x, 10, 1, 2, 2, 2, 2);
    x.setDrift(7);
    dueFaults(check, x, 3, 0, 2, 2, 2, 2);
    dueFaults(check, x, 13, 1, 2, 2, 2, 2);
    dueFaults(check, x, 10, 0, 3, 0, 3, 3);
    x.setDrift(-7);
    dueFaults(check, x, 7, 0, 2, 2, 2, 2);
  }

  @Sentence("3 it is not on the target")
  static void section2OffTheTargetIsAFault(Check check) {
    HopscotchCourt x = Courts.of(COURT);
    dueFaults(check, x, 15, 0, 3, 0, 3, 3);
    dueFaults(check, x, 15, 1, 3, 3, 0, 3);
    check.due("turn", x.turn(15, 0), 3);
  }

  @Sentence("(also if the target is 0)")
  static void section2WithoutTargetNoneIsOnIt(Check check) {
    HopscotchCourt x = Courts.of("court one one;player a owns 1;player b owns 2;player c;");
    for (int power = 0; power <= 25; power++) {
      int fault = power >= 20 ? 1 : power % 10 == 0 ? 2 : 3;
      check.due("power " + power, x.throwFault(2, power, 0), fault);
    }
    x.pass();
    x.pass();
    check.due("turn", x.turn(1, 0), 3);
    check.due("the target stays none", x.player(2, 2), 0);
  }
}
