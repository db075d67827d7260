/** Promises 1 to 9, but for the grammar of the texts (GrammarTest). */
public final class SetupTest {
  private static final Check check = new Check();
  private static final String WIDE = "court one two one;player a;player b reach 3 balance 1;";

  public static void main(String[] args) {
    aNewObjectIsTheSmallCourt();
    aNewObjectHoldsNothing();
    appendPacksBytes();
    appendRefusesWhatIsTooLong();
    appendCountsBytesOfAllKinds();
    loadReplacesTheCourt();
    loadLeavesNothingOfAnyCourtBefore();
    loadKeepsTheCourtAfterAnError();
    errorPositionIsTheLatest();
    countTellsTheCourt();
    countTellsTheRichest();
    playerTellsItsNumbers();
    squareTellsItsNumbers();
    rowTellsItsSquares();
    footingTellsHowARowIs();
    check.end();
  }

  private static void aNewObjectIsTheSmallCourt() {
    HopscotchCourt x = new HopscotchCourt();
    int[] counts = {2, 2, 2, 0, 0, 0, 0, 0, 0, 0, -1};
    for (int what = 0; what < counts.length; what++) {
      check.due("1 count " + what, x.count(what), counts[what]);
    }
    int[] numbers = {2, 3, 1, 0, 0, -1, 0, 0, 0, 0};
    for (int what = 0; what < numbers.length; what++) {
      check.due("1 player 0 " + what, x.player(0, what), numbers[what]);
      check.due("1 player 1 " + what, x.player(1, what), numbers[what]);
    }
    check.due("1 row 0", x.row(0), 1);
    check.due("1 row 1", x.row(1), 2);
    x.setPlayer(0, 3, 1);
    x.setPlayer(1, 3, 1);
    x.claim(0, 1);
    x.claim(1, 2);
    check.dueText("1 names", Courts.written(x), "1@a 2@b");
  }

  private static void aNewObjectHoldsNothing() {
    HopscotchCourt x = new HopscotchCourt();
    check.due("1 error position", x.errorPosition(), HopscotchCourt.NONE);
    check.dueState("1 undo", () -> x.undo());
    check.dueState("1 restore 0", () -> x.restore(0));
    check.dueState("1 restore 1", () -> x.restore(1));
    check.dueIndex("1 written byte", () -> x.writtenByte(0));
    check.due("1 empty buffer", x.append(0, 0, 0, 0, 0), 0);
    check.due("1 load of nothing", x.load(), HopscotchCourt.SYNTAX_ERROR);
    check.due("1 position in nothing", x.errorPosition(), 0);
  }

  private static void appendPacksBytes() {
    HopscotchCourt x = new HopscotchCourt();
    check.due("2 zeros inside", x.append(0x63006f00, 0, 0x00757274, 0x20000000, 0x00006f6e), 8);
    check.due("2 on", x.append(0x65206f6e, 0x653b706c, 0x61796572, 0x20613b70, 0x6c617965), 28);
    check.due("2 on", x.append(0x7220623b, 0, 0, 0, 0), 32);
    check.due("2 load", x.load(), 2);
    check.due("2 empty again", x.append(0, 0, 0, 0, 0x20), 1);
    check.due("2 bytes above 127", x.append(-1, 0x80, 0x8000, 0x800000, Integer.MIN_VALUE), 9);
    check.due("2 load", x.load(), HopscotchCourt.SYNTAX_ERROR);
    check.due("2 position", x.errorPosition(), 1);
  }

  private static void appendRefusesWhatIsTooLong() {
    HopscotchCourt x = new HopscotchCourt();
    int spaces = 0x20202020;
    for (int k = 1; k < 30; k++) {
      check.due("2 length", x.append(spaces, spaces, spaces, spaces, spaces), 20 * k);
    }
    check.due("2 ten more", x.append(spaces, spaces, 0, 0x2020, 0), 590);
    check.dueState("2 beyond 600", () -> x.append(spaces, spaces, spaces, spaces, spaces));
    check.dueState("2 one beyond 600", () -> x.append(0x20, spaces, spaces, 0x2020, 0));
    check.due("2 nothing was changed", x.append(0, 0, 0, 0, 0), 590);
    check.due("2 up to 600", x.append(0x2020, spaces, 0, spaces, 0), 600);
    check.dueState("2 a 601st", () -> x.append(0, 0, 0, 0, 0x41));
    check.due("2 nothing at 600", x.append(0, 0, 0, 0, 0), 600);
    check.due("2 all read", x.load(), HopscotchCourt.SYNTAX_ERROR);
    check.due("2 to its end", x.errorPosition(), 600);
  }

  private static void appendCountsBytesOfAllKinds() {
    for (int bit = 0; bit < 32; bit++) {
      HopscotchCourt x = new HopscotchCourt();
      Courts.append(x, " ".repeat(599));
      int one = 1 << bit;
      int two = one | Integer.rotateLeft(one, 8);
      check.dueState("2 two bytes more", () -> x.append(0, two, 0, 0, 0));
      check.due("2 one byte more", x.append(0, 0, 0, one, 0), 600);
      check.dueState("2 none more", () -> x.append(one, 0, 0, 0, 0));
    }
  }

  private static void loadLeavesNothingOfAnyCourtBefore() {
    HopscotchCourt x = Courts.of("court two two two;drift 4;player abc owns 6 marker 6;"
        + "player b claims 1 owns 1;player c;");
    x.firstThrough();
    Courts.load(x, "court one one;player ab owns 2 marker 2;player");
    x.turnsToCrown(1);
    check.due("3 load", Courts.load(x, "court one one;player z;player y;"), 2);
    int[] counts = {2, 2, 2, 0, 0, 0, 0, 0, 0, 0, -1};
    for (int what = 0; what < counts.length; what++) {
      check.due("3 count " + what, x.count(what), counts[what]);
    }
    int[] numbers = {2, 3, 1, 0, 0, -1, 0, 0, 0, 0};
    for (int what = 0; what < numbers.length; what++) {
      check.due("3 player 0 " + what, x.player(0, what), numbers[what]);
      check.due("3 player 1 " + what, x.player(1, what), numbers[what]);
    }
    for (int square = 1; square <= 2; square++) {
      for (int what = 2; what <= 4; what++) {
        check.due("3 square " + square + " " + what, x.square(square, what), what == 2 ? -1 : 0);
      }
    }
    x.setPlayer(0, 3, 1);
    x.claim(0, 1);
    check.dueText("3 the name", Courts.written(x), "1@z 2");
  }

  private static void loadReplacesTheCourt() {
    HopscotchCourt x = new HopscotchCourt();
    x.turn(1, 0);
    x.pass();
    x.turn(0, 0);
    check.due("3 load", Courts.load(x, "court one two two one;drift -4;player c reach 4 balance 9"
        + " target 3 claims 9 owns 2 owns 6 marker 5;player d;player e marker 5;"), 6);
    int[] counts = {4, 6, 3, -4, 0, 0, 2, 2, 0, 0, 0};
    for (int what = 0; what < counts.length; what++) {
      check.due("3 count " + what, x.count(what), counts[what]);
    }
    int[] numbers = {4, 9, 3, 9, 0, 5, 1 << 2 | 1 << 6, 0, 0, 0};
    for (int what = 0; what < numbers.length; what++) {
      check.due("3 player 0 " + what, x.player(0, what), numbers[what]);
    }
    for (int square = 1; square <= 6; square++) {
      check.due("3 landings " + square, x.square(square, 4), 0);
    }
    check.dueText("3 names", Courts.written(x), "1 2@c/3 4/5* 6@c");
    check.due("3 a change", x.undo(), 3);
    check.due("3 undone", x.count(5), 3);
  }

  private static void loadKeepsTheCourtAfterAnError() {
    HopscotchCourt x = Courts.of(WIDE);
    x.turn(1, 0);
    check.due("3 load", Courts.load(x, "court two two;drift 3;player z;player y reach 9;"),
        HopscotchCourt.VALUE_ERROR);
    check.due("3 squares stay", x.count(1), 4);
    check.due("3 the drift stays", x.count(3), 0);
    check.due("3 turns stay", x.count(5), 1);
    check.due("3 reach stays", x.player(1, 0), 3);
    check.due("3 the buffer is empty", x.append(0, 0, 0, 0, 0), 0);
    check.due("3 no change", x.undo(), 1);
  }

  private static void errorPositionIsTheLatest() {
    HopscotchCourt x = Courts.of(WIDE);
    check.due("4 without error", x.errorPosition(), -1);
    Courts.load(x, "court one one;plaier");
    check.due("4 with error", x.errorPosition(), 14);
    x.pass();
    x.undo();
    check.due("4 undo leaves it", x.errorPosition(), 14);
    Courts.append(x, "court");
    check.due("4 append leaves it", x.errorPosition(), 14);
    x.load();
    check.due("4 the next error", x.errorPosition(), 5);
    Courts.load(x, WIDE);
    check.due("4 without error again", x.errorPosition(), -1);
    x.undo();
    check.due("4 undo brings none back", x.errorPosition(), -1);
  }

  private static void countTellsTheCourt() {
    HopscotchCourt x = Courts.of("court one two one;drift 2;player a owns 3;player b;player c marker 3;");
    x.turn(0, 0); // f is 2: row 0, the target
    x.turn(8, 0); // on a line
    x.pass();
    x.mark(1, 3);
    int[] counts = {3, 4, 3, 2, 0, 3, 1, 2, 7, 1, 0};
    for (int what = 0; what < counts.length; what++) {
      check.due("5 count " + what, x.count(what), counts[what]);
    }
    check.dueArgument("5 count -1", () -> x.count(-1));
    check.dueArgument("5 count 11", () -> x.count(11));
    check.dueArgument("5 count least", () -> x.count(Integer.MIN_VALUE));
    check.dueArgument("5 count most", () -> x.count(Integer.MAX_VALUE));
  }

  private static void countTellsTheRichest() {
    HopscotchCourt x = Courts.of("court two two;player a;player b owns 4;player c owns 1;player d owns 2 owns 3;");
    check.due("5 the richest", x.count(10), 3);
    x.release(3);
    check.due("5 the lowest of several", x.count(10), 1);
    x.release(4);
    check.due("5 the lowest of the others", x.count(10), 2);
    x.release(1);
    x.release(2);
    check.due("5 nobody", x.count(10), -1);
    check.due("5 none owned", x.count(6), 0);
  }

  private static void playerTellsItsNumbers() {
    HopscotchCourt x = Courts.of("court one two one;player a;player b reach 3 balance 1 target 4 claims 2"
        + " owns 1 owns 4 marker 2;");
    int[] numbers = {3, 1, 4, 2, 0, 2, 1 << 1 | 1 << 4, 0, 0, 0};
    for (int what = 0; what < numbers.length; what++) {
      check.due("6 player 1 " + what, x.player(1, what), numbers[what]);
    }
    x.turn(10, 0);
    check.due("6 turns", x.player(0, 7), 1);
    check.due("6 faults", x.player(0, 8), 1);
    check.due("6 fault", x.player(0, 9), 2);
    x.pass();
    check.due("6 turns with a pass", x.player(1, 7), 1);
    check.due("6 no fault by a pass", x.player(1, 8), 0);
    x.pass();
    check.due("6 a pass clears the fault", x.player(0, 9), 0);
    check.due("6 not the faults", x.player(0, 8), 1);
    check.due("6 turns", x.player(0, 7), 2);
    check.dueIndex("6 player -1", () -> x.player(-1, 0));
    check.dueIndex("6 player 2", () -> x.player(2, 0));
    check.dueIndex("6 both wrong", () -> x.player(2, 10));
    check.dueArgument("6 what 10", () -> x.player(1, 10));
    check.dueArgument("6 what -1", () -> x.player(0, -1));
    check.dueArgument("6 what least", () -> x.player(0, Integer.MIN_VALUE));
  }

  private static void squareTellsItsNumbers() {
    HopscotchCourt x = Courts.of("court one two one two;player a owns 3;player b marker 5;player c marker 5;");
    HopscotchCourt all = Courts.of("court one two;player a marker 2;player b marker 2;player c marker 3;"
        + "player d marker 2;player e;player f marker 2;");
    check.due("7 markers of six players", all.square(2, 3), 0b101011);
    int[] rows = {0, 1, 1, 2, 3, 3};
    int[] sides = {0, 0, 1, 0, 0, 1};
    for (int square = 1; square <= 6; square++) {
      check.due("7 row of " + square, x.square(square, 0), rows[square - 1]);
      check.due("7 side of " + square, x.square(square, 1), sides[square - 1]);
      check.due("7 owner of " + square, x.square(square, 2), square == 3 ? 0 : -1);
      check.due("7 markers on " + square, x.square(square, 3), square == 5 ? 1 << 1 | 1 << 2 : 0);
      check.due("7 landings on " + square, x.square(square, 4), 0);
    }
    // Out by 1, 2, 3, home, for its own marker lies in row 0; back by 3, 2, 1, 0, start.
    x.turn(1, 0);
    int[] landings = {1, 2, 2, 2, 0, 2};
    for (int square = 1; square <= 6; square++) {
      check.due("7 landings on " + square, x.square(square, 4), landings[square - 1]);
    }
    check.dueIndex("7 square 0", () -> x.square(0, 0));
    check.dueIndex("7 square 7", () -> x.square(7, 0));
    check.dueIndex("7 both wrong", () -> x.square(-1, 5));
    check.dueArgument("7 what 5", () -> x.square(1, 5));
    check.dueArgument("7 what -1", () -> x.square(6, -1));
  }

  private static void rowTellsItsSquares() {
    HopscotchCourt x = Courts.of("court two one two;player a;player b;");
    check.due("8 row 0", x.row(0), 101);
    check.due("8 row 1", x.row(1), 3);
    check.due("8 row 2", x.row(2), 104);
    check.dueIndex("8 row -1", () -> x.row(-1));
    check.dueIndex("8 row 3", () -> x.row(3));
    HopscotchCourt y = Courts.of("court two two two two two two two two two two;player a;player b;");
    check.due("8 the last row of all", y.row(9), 119);
    check.dueIndex("8 row 10", () -> y.row(10));
  }

  private static void footingTellsHowARowIs() {
    HopscotchCourt x = Courts.of("court one one two two two two;player a owns 1 owns 3 owns 8;"
        + "player b marker 6;player c;");
    x.mark(0, 3);
    int[] ofA = {2, 1, 1, 1, 2, 2};
    int[] ofB = {0, 1, 1, 1, 1, 2};
    for (int row = 0; row < 6; row++) {
      check.due("9 footing of a in " + row, x.footing(0, row), ofA[row]);
      check.due("9 footing of b in " + row, x.footing(1, row), ofB[row]);
    }
    x.mark(1, 2);
    check.due("9 the own marker closes a row", x.footing(1, 1), 0);
    check.due("9 and that of another one", x.footing(2, 1), 0);
    x.mark(2, 4);
    check.due("9 two markers close a row", x.footing(0, 2), 0);
    x.mark(2, 1);
    check.due("9 a marker on an own square", x.footing(0, 0), 0);
    x.mark(2, 7);
    check.due("9 an own square beside a marker", x.footing(0, 4), 2);
    check.due("9 forbidden beside a marker", x.footing(1, 4), 0);
    check.dueIndex("9 player 3", () -> x.footing(3, 0));
    check.dueIndex("9 player -1", () -> x.footing(-1, 0));
    check.dueIndex("9 row 6", () -> x.footing(0, 6));
    check.dueIndex("9 row -1", () -> x.footing(0, -1));
  }
}
