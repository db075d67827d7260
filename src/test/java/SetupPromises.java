/** Promises 1 to 9: the setup. */
final class SetupPromises {
  private static final String PLAYERS = "player a;player b;";
  private static final int FOUR_SPACES = 0x20202020;

  private SetupPromises() {}

  @Sentence("Creates a court as by the text \"court one one;player a;player b;\"")
  static void promise1ANewCourtIsTheSmallest(Check check) {
    HopscotchCourt x = new HopscotchCourt();
    check.dueText("as by the text", Courts.told(x), Courts.told(Courts.of("court one one;player a;player b;")));
    check.dueCounts(x, 2, 2, 2, 0, 0, 0, 0, 0, 0, 0, -1);
    check.dueNumbers(x, 0, 2, 3, 1, 0, 0, -1, 0, 0, 0, 0);
    check.dueNumbers(x, 1, 2, 3, 1, 0, 0, -1, 0, 0, 0, 0);
    x.setPlayer(0, 3, 1);
    x.setPlayer(1, 3, 1);
    x.claim(0, 1);
    x.claim(1, 2);
    check.dueText("the names", Courts.written(x), "1@a 2@b");
  }

  @Sentence("Creates a court as by the text \"court one one;player a;player b;\"")
  static void promise1ANewCourtIsNoChange(Check check) {
    HopscotchCourt x = new HopscotchCourt();
    check.dueState("nothing to undo", () -> x.undo());
    check.due("no error", x.errorPosition(), -1);
    check.dueIndex("nothing written", () -> x.writtenByte(0));
  }

  @Sentence("with an empty text buffer")
  static void promise1TheTextBufferIsEmpty(Check check) {
    HopscotchCourt x = new HopscotchCourt();
    check.due("length", x.append(0, 0, 0, 0, 0), 0);
    check.due("load", x.load(), HopscotchCourt.SYNTAX_ERROR);
    check.due("at the beginning", x.errorPosition(), 0);
  }

  @Sentence("and nothing saved.")
  static void promise1NothingIsSaved(Check check) {
    HopscotchCourt x = new HopscotchCourt();
    check.dueState("slot 0", () -> x.restore(0));
    check.dueState("slot 1", () -> x.restore(1));
  }

  @Sentence("Appends up to 20 bytes to the text buffer: the four bytes of each argument in order, the most significant"
      + " byte first")
  static void promise2TheMostSignificantByteComesFirst(Check check) {
    HopscotchCourt x = new HopscotchCourt();
    check.due("cour t on e on e;pl ayer", x.append(0x636f7572, 0x74206f6e, 0x65206f6e, 0x653b706c, 0x61796572), 20);
    check.due(" a;p laye r b;", x.append(0x20613b70, 0x6c617965, 0x7220623b, 0, 0), 32);
    check.due("load", x.load(), 2);
  }

  @Sentence("Appends up to 20 bytes to the text buffer")
  static void promise2NoByteIsAppendedAtAll(Check check) {
    HopscotchCourt x = new HopscotchCourt();
    check.due("none", x.append(0, 0, 0, 0, 0), 0);
    check.due("one", x.append(0, 0, 0, 0, 0x20), 1);
    check.due("twenty", x.append(FOUR_SPACES, FOUR_SPACES, FOUR_SPACES, FOUR_SPACES, FOUR_SPACES), 21);
    check.due("none behind them", x.append(0, 0, 0, 0, 0), 21);
  }

  @Sentence("bytes that are 0 are left out.")
  static void promise2ZerosAreLeftOut(Check check) {
    HopscotchCourt x = new HopscotchCourt();
    check.due("c o u r t", x.append(0x63000000, 0x006f0000, 0x00007500, 0x00000072, 0x74000020), 6);
    check.due("one one;", x.append(0x6f006e65, 0, 0x206f6e00, 0x00650000, 0x3b), 14);
    Courts.append(x, PLAYERS);
    check.due("load", x.load(), 2);
  }

  @Sentence("bytes that are 0 are left out.")
  static void promise2BytesAbove127AreNotLeftOut(Check check) {
    HopscotchCourt x = new HopscotchCourt();
    check.due("four of 255", x.append(-1, 0, 0, 0, 0), 4);
    check.due("one of 128 at each place", x.append(0x80000000, 0x800000, 0x8000, 0x80, 0), 8);
    check.due("load", x.load(), HopscotchCourt.SYNTAX_ERROR);
    check.due("at the first", x.errorPosition(), 0);
  }

  @Sentence("bytes that are 0 are left out.")
  static void promise2AByteWithASingleBitIsNotLeftOut(Check check) {
    for (int bit = 0; bit < 32; bit++) {
      HopscotchCourt x = new HopscotchCourt();
      Courts.append(x, " ".repeat(599));
      int one = 1 << bit;
      int two = one | Integer.rotateLeft(one, 8);
      check.dueState("two bytes more, by bit " + bit, () -> x.append(0, two, 0, 0, 0));
      check.due("one byte more, by bit " + bit, x.append(0, 0, 0, one, 0), 600);
    }
  }

  @Sentence("Returns the new length of the buffer.")
  static void promise2TheLengthGrows(Check check) {
    HopscotchCourt x = new HopscotchCourt();
    for (int length = 1; length <= 30; length++) {
      check.due("length", x.append(0, 0, 0x6100, 0, 0), length);
    }
    x.load();
    check.due("from the beginning again", x.append(0x61, 0x61, 0, 0, 0), 2);
  }

  @Sentence("Throws `IllegalStateException` if the length would exceed 600")
  static void promise2ALengthOf600IsNotTooLong(Check check) {
    HopscotchCourt x = new HopscotchCourt();
    for (int length = 20; length <= 600; length += 20) {
      check.due("length", x.append(FOUR_SPACES, FOUR_SPACES, FOUR_SPACES, FOUR_SPACES, FOUR_SPACES), length);
    }
    check.due("nothing more", x.append(0, 0, 0, 0, 0), 600);
  }

  @Sentence("Throws `IllegalStateException` if the length would exceed 600")
  static void promise2ALengthOf601IsTooLong(Check check) {
    int[][] one = {{0x20, 0, 0, 0, 0}, {0, 0x2000, 0, 0, 0}, {0, 0, 0x200000, 0, 0}, {0, 0, 0, 0x20000000, 0},
      {0, 0, 0, 0, 0x20}, {0, 0, 0, 0, 0x80000000}};
    for (int[] bytes : one) {
      HopscotchCourt x = new HopscotchCourt();
      Courts.append(x, " ".repeat(600));
      check.dueState("a 601st", () -> x.append(bytes[0], bytes[1], bytes[2], bytes[3], bytes[4]));
      check.due("the length stays", x.append(0, 0, 0, 0, 0), 600);
    }
    HopscotchCourt y = new HopscotchCourt();
    Courts.append(y, " ".repeat(581));
    check.dueState("20 behind 581", () -> y.append(FOUR_SPACES, FOUR_SPACES, FOUR_SPACES, FOUR_SPACES, FOUR_SPACES));
    check.due("19 behind 581", y.append(FOUR_SPACES, FOUR_SPACES, FOUR_SPACES, FOUR_SPACES, 0x202020), 600);
  }

  @Sentence("Reads the whole text buffer as a court.")
  static void promise3TheWholeBufferIsRead(Check check) {
    HopscotchCourt x = new HopscotchCourt();
    Courts.append(x, "court one one;player a;player b;");
    Courts.append(x, "x");
    check.due("one byte too much", x.load(), HopscotchCourt.SYNTAX_ERROR);
    check.due("there", x.errorPosition(), 32);
    String text = "court one one;player a;player b;";
    check.dueLoad(text + " ".repeat(599 - text.length()) + "^;", HopscotchCourt.SYNTAX_ERROR);
    check.due("nothing", x.load(), HopscotchCourt.SYNTAX_ERROR);
  }

  @Sentence("Reads the whole text buffer as a court.")
  static void promise3NothingBehindTheBufferIsRead(Check check) {
    // Each beginning of a text is read where the whole text was read before.
    String text = "court one one;drift -1;player a reach 1 owns 2;player b;";
    for (int length = 0; length < text.length(); length++) {
      HopscotchCourt x = new HopscotchCourt();
      HopscotchCourt y = new HopscotchCourt();
      Courts.load(x, text);
      check.due("up to " + length, Courts.load(x, text.substring(0, length)), Courts.load(y, text.substring(0, length)));
      check.due("the position up to " + length, x.errorPosition(), y.errorPosition());
    }
    check.dueLoad("court one one;player a reach " + "0".repeat(570) + "1^", HopscotchCourt.SYNTAX_ERROR);
    check.dueLoad("court one one;player ^" + "a".repeat(579), HopscotchCourt.SYNTAX_ERROR);
  }

  @Sentence("If the text has no error, it replaces the present one (all counts are 0, it is the turn of player 0)")
  static void promise3AllCountsAre0BehindWhatWouldBe(Check check) {
    HopscotchCourt x = Courts.of("court two two;player abc target 4;player b;");
    x.bestClaim(0);
    x.turnsToCrown(0);
    Courts.load(x, "court one one;player c;player d;");
    check.dueText("as on a new object", Courts.told(x), Courts.told(new HopscotchCourt()));
  }

  @Sentence("If the text has no error, it replaces the present one (all counts are 0, it is the turn of player 0)")
  static void promise3AllCountsAre0(Check check) {
    HopscotchCourt x = Courts.of("court one one;player a target 2 claims 1;player b;player c;");
    x.turn(11, 0);
    x.turn(0, 0);
    x.claim(0, 2);
    check.due("the turn of c", x.count(4), 2);
    String text = "court one one;drift 1;player a owns 1 marker 2;player b;player c;";
    Courts.load(x, text);
    check.dueText("as on a new object", Courts.told(x), Courts.told(Courts.of(text)));
    check.dueCounts(x, 2, 2, 3, 1, 0, 0, 1, 1, 0, 0, 0);
    check.dueNumbers(x, 0, 2, 3, 1, 0, 0, 2, 2, 0, 0, 0);
    check.dueNumbers(x, 1, 2, 3, 2, 0, 0, -1, 0, 0, 0, 0);
    check.dueLandings(x, 0, 0);
  }

  @Sentence("If the text has no error, it replaces the present one (all counts are 0, it is the turn of player 0)")
  static void promise3ASmallerCourtReplacesALargerOne(Check check) {
    HopscotchCourt x = Courts.of("court" + " two".repeat(10) + ";drift 9;player abcdefgh owns 20 marker 20;player b owns 2"
        + " marker 2;player c;player d;player e;player f owns 1;");
    Courts.load(x, "court one one;player z;player y;");
    check.dueText("as on a new object", Courts.told(x), Courts.told(new HopscotchCourt()));
    check.dueIndex("no player 2", () -> x.player(2, 0));
    check.dueIndex("no square 3", () -> x.square(3, 0));
    check.dueIndex("no row 2", () -> x.row(2));
    check.dueText("written", Courts.written(x), "1 2");
  }

  @Sentence("in case of an error the present one stays.")
  static void promise3WithAnErrorThePresentCourtStays(Check check) {
    HopscotchCourt x = Courts.of("court one two;drift 2;player abc target 2 claims 1 owns 1 marker 3;player b;");
    x.turn(9, 0);
    String before = Courts.told(x);
    String written = Courts.written(x);
    String[] texts = {"", "court two two two;drift 5;player z owns 6;player y;player x reach 5;", "court two one one",
        "court two two;player a;player b;player a;"};
    for (String text : texts) {
      check.due("an error in " + text, Courts.load(x, text) < 0 ? 1 : 0, 1);
      check.dueText("behind " + text, Courts.told(x), before);
      check.dueText("the names behind " + text, Courts.written(x), written);
    }
  }

  @Sentence("The buffer is empty afterwards in both cases.")
  static void promise3TheBufferIsEmptyAfterwards(Check check) {
    HopscotchCourt x = new HopscotchCourt();
    Courts.load(x, "court one one;player a;player b;");
    check.due("without an error", x.append(0, 0, 0, 0, 0), 0);
    Courts.load(x, "court one one;player a;");
    check.due("with an error", x.append(0, 0, 0, 0, 0), 0);
    check.due("nothing is left", x.load(), HopscotchCourt.SYNTAX_ERROR);
    check.due("nothing is left", x.errorPosition(), 0);
  }

  @Sentence("Returns the number of squares, or the error code.")
  static void promise3TheNumberOfSquaresIsReturned(Check check) {
    check.dueLoad("court one one;" + PLAYERS, 2);
    check.dueLoad("court" + " two".repeat(10) + ";" + PLAYERS, 20);
    check.dueLoad("court one one^:" + PLAYERS, -2);
    check.dueLoad("court one one;drift ^10;" + PLAYERS, -3);
    check.dueLoad("court one one;player a;player ^a;", -4);
    check.dueLoad("court" + " two".repeat(10) + " ^two;" + PLAYERS, -5);
  }

  @Sentence("Returns the position of the error that the latest call of load found.")
  static void promise4TheLatestErrorIsTold(Check check) {
    HopscotchCourt x = new HopscotchCourt();
    Courts.load(x, "court one;");
    check.due("the first", x.errorPosition(), 9);
    Courts.append(x, "cour");
    x.pass();
    check.due("until the next load", x.errorPosition(), 9);
    x.load();
    check.due("the second", x.errorPosition(), 0);
    Courts.load(x, " ".repeat(600));
    check.due("the farthest", x.errorPosition(), 600);
  }

  @Sentence("Returns the position; NONE if it found no error or if there was no call.")
  static void promise4WithoutErrorThereIsNone(Check check) {
    HopscotchCourt x = new HopscotchCourt();
    check.due("no call", x.errorPosition(), -1);
    Courts.load(x, "x");
    check.due("an error", x.errorPosition(), 0);
    Courts.load(x, "court one one;" + PLAYERS);
    check.due("no error", x.errorPosition(), -1);
  }

  private static HopscotchCourt counted() {
    HopscotchCourt x = Courts.of("court one two one;drift -2;player a owns 3;player b owns 1 owns 4;player c marker 3;");
    x.turn(3, 0);
    x.turn(0, 0);
    x.pass();
    x.turn(14, 0);
    return x;
  }

  @Sentence("0: rows")
  static void promise5Count0IsRows(Check check) {
    check.due("rows", counted().count(0), 3);
    check.due("least", new HopscotchCourt().count(0), 2);
    check.due("most", Courts.of("court" + " one".repeat(10) + ";" + PLAYERS).count(0), 10);
  }

  @Sentence("1: squares")
  static void promise5Count1IsSquares(Check check) {
    check.due("squares", counted().count(1), 4);
    check.due("most", Courts.of("court" + " two".repeat(10) + ";" + PLAYERS).count(1), 20);
  }

  @Sentence("2: players")
  static void promise5Count2IsPlayers(Check check) {
    check.due("players", counted().count(2), 3);
    check.due("most", Courts.of("court one one;" + PLAYERS + "player c;player d;player e;player f;").count(2), 6);
  }

  @Sentence("3: the drift")
  static void promise5Count3IsTheDrift(Check check) {
    HopscotchCourt x = counted();
    check.due("drift", x.count(3), -2);
    for (int drift = -9; drift <= 9; drift += 9) {
      x.setDrift(drift);
      check.due("drift", x.count(3), drift);
    }
  }

  @Sentence("4: the player whose turn it is")
  static void promise5Count4IsWhoseTurnItIs(Check check) {
    HopscotchCourt x = counted();
    check.due("behind four turns of three", x.count(4), 1);
    x.pass();
    check.due("then", x.count(4), 2);
    x.pass();
    check.due("and the first again", x.count(4), 0);
  }

  @Sentence("5: turns so far (passes too)")
  static void promise5Count5IsTurnsAndPasses(Check check) {
    HopscotchCourt x = new HopscotchCourt();
    check.due("none", x.count(5), 0);
    x.pass();
    check.due("a pass", x.count(5), 1);
    x.turn(0, 0);
    check.due("a fault", x.count(5), 2);
    x.turn(1, 0);
    check.due("without a fault", x.count(5), 3);
  }

  @Sentence("6: squares that are owned")
  static void promise5Count6IsOwnedSquares(Check check) {
    HopscotchCourt x = counted();
    check.due("of two players", x.count(6), 3);
    x.release(1);
    x.release(3);
    x.release(4);
    check.due("none", x.count(6), 0);
    StringBuilder all = new StringBuilder("court" + " two".repeat(10) + ";player a");
    for (int square = 1; square <= 20; square++) {
      all.append(" owns ").append(square);
    }
    check.due("all", Courts.of(all + ";player b;").count(6), 20);
  }

  @Sentence("7: markers that lie")
  static void promise5Count7IsMarkers(Check check) {
    HopscotchCourt x = Courts.of("court one one;" + PLAYERS + "player c;player d;player e;player f;");
    check.due("none", x.count(7), 0);
    for (int player = 0; player < 6; player++) {
      x.mark(player, 1);
      check.due("on one square", x.count(7), player + 1);
    }
    x.mark(3, HopscotchCourt.NONE);
    check.due("one less", x.count(7), 5);
  }

  @Sentence("8: hops so far")
  static void promise5Count8IsHops(Check check) {
    HopscotchCourt x = new HopscotchCourt();
    check.due("none", x.count(8), 0);
    x.turn(1, 0);
    // Out by 1, home; back by 1, 0, start: those to ground count too.
    check.due("two and three", x.count(8), 5);
    x.turn(0, 0);
    x.pass();
    check.due("none by a fault or a pass", x.count(8), 5);
    x.pass();
    x.turn(11, 0);
    check.due("of the next turn", x.count(8), 10);
  }

  @Sentence("9: turns without a fault so far (without passes)")
  static void promise5Count9IsTurnsWithoutFault(Check check) {
    HopscotchCourt x = new HopscotchCourt();
    x.pass();
    check.due("no pass", x.count(9), 0);
    x.turn(0, 0);
    check.due("no fault", x.count(9), 0);
    x.turn(1, 0);
    check.due("one", x.count(9), 1);
    x.setPlayer(1, 0, 1);
    x.turn(1, 0);
    check.due("no fault of the hops", x.count(9), 1);
  }

  @Sentence("10: the player with most squares, of several the lowest one (NONE if no square is owned)")
  static void promise5Count10IsTheRichest(Check check) {
    HopscotchCourt x = Courts.of("court two two two;player a owns 1;player b owns 2 owns 3;player c owns 4 owns 5 owns 6;");
    check.due("c", x.count(10), 2);
    x.release(6);
    check.due("b, of several the lowest", x.count(10), 1);
    x.release(2);
    x.release(5);
    check.due("a, of several the lowest", x.count(10), 0);
    x.release(1);
    check.due("b, without a", x.count(10), 1);
  }

  @Sentence("(NONE if no square is owned)")
  static void promise5Count10IsNoneWithoutOwners(Check check) {
    HopscotchCourt x = Courts.of("court one one;player a;player b owns 2;");
    check.due("b", x.count(10), 1);
    x.release(2);
    check.due("nobody", x.count(10), HopscotchCourt.NONE);
  }

  @Sentence("Throws `IllegalArgumentException` for any other what")
  static void promise5AnyOtherWhatIsRefused(Check check) {
    HopscotchCourt x = new HopscotchCourt();
    for (int what : new int[] {Integer.MIN_VALUE, -2, -1, 11, 12, 100, Integer.MAX_VALUE}) {
      check.dueArgument("count " + what, () -> x.count(what));
    }
    check.due("the first", x.count(0), 2);
    check.due("the last", x.count(10), -1);
  }

  private static HopscotchCourt numbered() {
    return Courts.of("court one two one;player a;player b reach 4 balance 1 target 4 claims 9 owns 1 owns 4 marker 2;");
  }

  @Sentence("0: its reach")
  static void promise6Number0IsTheReach(Check check) {
    check.due("a", numbered().player(0, 0), 2);
    check.due("b", numbered().player(1, 0), 4);
  }

  @Sentence("1: its balance")
  static void promise6Number1IsTheBalance(Check check) {
    check.due("a", numbered().player(0, 1), 3);
    check.due("b", numbered().player(1, 1), 1);
  }

  @Sentence("2: its target")
  static void promise6Number2IsTheTarget(Check check) {
    check.due("a, whose first is forbidden", numbered().player(0, 2), 2);
    check.due("b", numbered().player(1, 2), 4);
    check.due("none", Courts.of("court one one;player a owns 1 owns 2;player b;").player(1, 2), 0);
  }

  @Sentence("3: its claims")
  static void promise6Number3IsTheClaims(Check check) {
    check.due("a", numbered().player(0, 3), 0);
    check.due("b", numbered().player(1, 3), 9);
  }

  @Sentence("4: its crowns")
  static void promise6Number4IsTheCrowns(Check check) {
    HopscotchCourt x = Courts.of("court one one;player a target 2;player b;");
    check.due("none", x.player(0, 4), 0);
    x.turn(11, 0);
    check.due("one", x.player(0, 4), 1);
    check.due("of the other one", x.player(1, 4), 0);
  }

  @Sentence("5: the square on which its marker lies (NONE)")
  static void promise6Number5IsTheMarker(Check check) {
    HopscotchCourt x = numbered();
    check.due("none", x.player(0, 5), HopscotchCourt.NONE);
    check.due("b", x.player(1, 5), 2);
    x.mark(1, 1);
    check.due("on the first", x.player(1, 5), 1);
    x.mark(1, 4);
    check.due("on the last", x.player(1, 5), 4);
  }

  @Sentence("6: the squares that it owns, as a set in which bit k is square k")
  static void promise6Number6IsASetOfSquares(Check check) {
    check.due("none", numbered().player(0, 6), 0);
    check.due("1 and 4", numbered().player(1, 6), 0b10010);
    check.due("20", Courts.of("court" + " two".repeat(10) + ";player a owns 20;player b;").player(0, 6), 1 << 20);
  }

  @Sentence("7: its turns so far (passes too)")
  static void promise6Number7IsItsTurns(Check check) {
    HopscotchCourt x = new HopscotchCourt();
    check.due("none", x.player(0, 7), 0);
    x.pass();
    check.due("a pass", x.player(0, 7), 1);
    check.due("not of the other one", x.player(1, 7), 0);
    x.turn(0, 0);
    x.turn(1, 0);
    check.due("and a turn", x.player(0, 7), 2);
    check.due("of the other one", x.player(1, 7), 1);
  }

  @Sentence("8: its faults so far")
  static void promise6Number8IsItsFaults(Check check) {
    HopscotchCourt x = Courts.of("court one one;player a;player b reach 1;");
    check.due("none", x.player(0, 8), 0);
    x.turn(1, 0);
    check.due("none by a good turn", x.player(0, 8), 0);
    x.turn(1, 0);
    check.due("of the hops", x.player(1, 8), 1);
    x.pass();
    check.due("none by a pass", x.player(0, 8), 0);
    x.turn(199, 0);
    check.due("of the throw", x.player(1, 8), 2);
  }

  @Sentence("9: the fault of its latest turn (0 if it had none, for a pass, and before its first turn)")
  static void promise6Number9IsTheLatestFault(Check check) {
    HopscotchCourt x = Courts.of("court one one;player a;player b reach 1;");
    check.due("before its first turn", x.player(0, 9), 0);
    x.turn(10, 0);
    check.due("of a", x.player(0, 9), 2);
    x.turn(1, 0);
    check.due("of b", x.player(1, 9), 4);
    check.due("still of a", x.player(0, 9), 2);
    x.turn(1, 0);
    check.due("none", x.player(0, 9), 0);
    check.due("still of b", x.player(1, 9), 4);
    x.pass();
    check.due("a pass", x.player(1, 9), 0);
  }

  @Sentence("Throws `IndexOutOfBoundsException` if the player does not exist")
  static void promise6AWrongPlayerIsRefused(Check check) {
    HopscotchCourt x = Courts.of("court one one;player a;player b;player c;");
    for (int player : new int[] {Integer.MIN_VALUE, -1, 3, 6, Integer.MAX_VALUE}) {
      check.dueIndex("player " + player, () -> x.player(player, 0));
      check.dueIndex("player " + player, () -> x.player(player, 6));
    }
    check.due("the last", x.player(2, 0), 2);
  }

  @Sentence("Throws `IllegalArgumentException` for any other what")
  static void promise6AnyOtherWhatIsRefused(Check check) {
    HopscotchCourt x = new HopscotchCourt();
    for (int what : new int[] {Integer.MIN_VALUE, -1, 10, 11, Integer.MAX_VALUE}) {
      check.dueArgument("what " + what, () -> x.player(1, what));
      check.dueArgument("what " + what, () -> x.player(0, what));
    }
  }

  @Sentence("0: its row")
  static void promise7Number0IsTheRow(Check check) {
    HopscotchCourt x = Courts.of("court one two two one;" + PLAYERS);
    int[] rows = {0, 1, 1, 2, 2, 3};
    for (int square = 1; square <= 6; square++) {
      check.due("row of " + square, x.square(square, 0), rows[square - 1]);
    }
  }

  @Sentence("1: its side (0 also in a row of one)")
  static void promise7Number1IsTheSide(Check check) {
    HopscotchCourt x = Courts.of("court one two two one;" + PLAYERS);
    int[] sides = {0, 0, 1, 0, 1, 0};
    for (int square = 1; square <= 6; square++) {
      check.due("side of " + square, x.square(square, 1), sides[square - 1]);
    }
  }

  @Sentence("2: its owner (NONE)")
  static void promise7Number2IsTheOwner(Check check) {
    HopscotchCourt x = Courts.of("court one one one;player a owns 1;player b owns 3;");
    check.due("a", x.square(1, 2), 0);
    check.due("nobody", x.square(2, 2), HopscotchCourt.NONE);
    check.due("b", x.square(3, 2), 1);
  }

  @Sentence("3: the players whose markers lie on it, as a set of bits")
  static void promise7Number3IsASetOfPlayers(Check check) {
    HopscotchCourt x = Courts.of("court one one;player a marker 2;player b;player c marker 2;player d marker 1;player e;"
        + "player f marker 2;");
    check.due("three", x.square(2, 3), 0b100101);
    check.due("one", x.square(1, 3), 0b001000);
    x.mark(3, 2);
    check.due("none", x.square(1, 3), 0);
  }

  @Sentence("4: how many landings there were on it so far (a landing in a row is one on each of its squares that were"
      + " usable then)")
  static void promise7Number4IsLandings(Check check) {
    HopscotchCourt x = Courts.of("court two two two;player a;player b owns 4 marker 6;player c;");
    check.dueLandings(x, 0, 0, 0, 0, 0, 0);
    check.due("turn", x.turn(1, 0), 0);
    // On 1 only on the way back, behind the pick-up; never on the forbidden 4 and the marker's 6.
    check.dueLandings(x, 1, 2, 2, 0, 2, 0);
    x.turn(0, 0);
    x.pass();
    check.dueLandings(x, 1, 2, 2, 0, 2, 0);
  }

  @Sentence("Throws `IndexOutOfBoundsException` if the square does not exist")
  static void promise7AWrongSquareIsRefused(Check check) {
    HopscotchCourt x = Courts.of("court one two;" + PLAYERS);
    for (int square : new int[] {Integer.MIN_VALUE, -1, 0, 4, 20, 21, Integer.MAX_VALUE}) {
      for (int what = 0; what <= 4; what++) {
        int number = what;
        check.dueIndex("square " + square, () -> x.square(square, number));
      }
    }
    check.due("the last", x.square(3, 0), 1);
  }

  @Sentence("Throws `IllegalArgumentException` for any other what")
  static void promise7AnyOtherWhatIsRefused(Check check) {
    HopscotchCourt x = new HopscotchCourt();
    for (int what : new int[] {Integer.MIN_VALUE, -1, 5, 6, Integer.MAX_VALUE}) {
      check.dueArgument("what " + what, () -> x.square(1, what));
      check.dueArgument("what " + what, () -> x.square(2, what));
    }
  }

  @Sentence("Returns the first one, plus 100 if there are two.")
  static void promise8ARowOfTwoIsToldBy100(Check check) {
    HopscotchCourt x = Courts.of("court one two two one;" + PLAYERS);
    int[] rows = {1, 102, 104, 6};
    for (int row = 0; row < 4; row++) {
      check.due("row " + row, x.row(row), rows[row]);
    }
    check.due("the last of all", Courts.of("court" + " two".repeat(10) + ";" + PLAYERS).row(9), 119);
  }

  @Sentence("Returns the squares of a row.")
  static void promise8ARowOfOneIsItsSquare(Check check) {
    HopscotchCourt x = new HopscotchCourt();
    check.due("row 0", x.row(0), 1);
    check.due("row 1", x.row(1), 2);
  }

  @Sentence("Throws `IndexOutOfBoundsException` if the row does not exist")
  static void promise8AWrongRowIsRefused(Check check) {
    HopscotchCourt x = Courts.of("court one two one;" + PLAYERS);
    for (int row : new int[] {Integer.MIN_VALUE, -1, 3, 10, Integer.MAX_VALUE}) {
      check.dueIndex("row " + row, () -> x.row(row));
    }
    HopscotchCourt y = Courts.of("court" + " two".repeat(10) + ";" + PLAYERS);
    check.dueIndex("row 10 of ten", () -> y.row(10));
  }

  @Sentence("Returns how a row is for a player now.")
  static void promise9TheRowIsToldAsItIsNow(Check check) {
    // The own marker counts where it lies, though the target is elsewhere.
    HopscotchCourt x = Courts.of("court one one;player a target 1;" + "player b;");
    check.due("row 1", x.footing(0, 1), 1);
    x.mark(0, 2);
    check.due("with the own marker", x.footing(0, 1), 0);
    check.due("the target without marker", x.footing(0, 0), 1);
  }

  @Sentence("Returns 0 if it is not open; 1 if a landing would be shaky; 2 if it would be firm.")
  static void promise9ARowIsClosedShakyOrFirm(Check check) {
    HopscotchCourt x = Courts.of("court one one two two one;player a owns 2;player b owns 7 marker 5;");
    int[] ofA = {1, 2, 2, 1, 0};
    int[] ofB = {1, 0, 2, 1, 2};
    for (int row = 0; row < 5; row++) {
      check.due("of a in " + row, x.footing(0, row), ofA[row]);
      check.due("of b in " + row, x.footing(1, row), ofB[row]);
    }
  }

  @Sentence("Throws `IndexOutOfBoundsException` if the player or the row does not exist")
  static void promise9AWrongPlayerOrRowIsRefused(Check check) {
    HopscotchCourt x = new HopscotchCourt();
    for (int wrong : new int[] {Integer.MIN_VALUE, -1, 2, 10, Integer.MAX_VALUE}) {
      check.dueIndex("player " + wrong, () -> x.footing(wrong, 0));
      check.dueIndex("row " + wrong, () -> x.footing(0, wrong));
      check.dueIndex("both " + wrong, () -> x.footing(wrong, wrong));
    }
    check.due("the last of both", x.footing(1, 1), 1);
  }
}
