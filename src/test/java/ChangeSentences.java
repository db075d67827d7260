/** Sections 6 and 7 of the document: changes, and exceptions. */
final class ChangeSentences {
  private ChangeSentences() {}

  private static void dueUndo(Check check, String call, HopscotchCourt x, int changes) {
    for (int left = changes - 1; left >= 0; left--) {
      check.due("undo behind " + call, x.undo(), left);
    }
    check.dueState("no undo more behind " + call, () -> x.undo());
  }

  @Sentence("The changes are all calls of load, turn, pass, claim, release, setDrift, setPlayer, mark and restore that"
      + " succeed")
  static void section6EachOfTheNineCallsIsAChange(Check check) {
    for (int call = 0; call < 9; call++) {
      HopscotchCourt x = Courts.of("court one one;player a;player b claims 1 owns 2;");
      x.save(0);
      String before = Courts.told(x);
      change(x, call);
      check.due("undo of change " + call, x.undo(), 1);
      check.dueText("behind undo of change " + call, Courts.told(x), before);
    }
  }

  private static void change(HopscotchCourt x, int call) {
    switch (call) {
      case 0: Courts.load(x, "court one one;player c;player d;"); break;
      case 1: x.turn(1, 0); break;
      case 2: x.pass(); break;
      case 3: x.release(2); break;
      case 4: x.claim(1, 1); break;
      case 5: x.setDrift(3); break;
      case 6: x.setPlayer(0, 0, 4); break;
      case 7: x.mark(0, 1); break;
      default: x.restore(0);
    }
  }

  @Sentence("The changes are all calls of load, turn, pass, claim, release, setDrift, setPlayer, mark and restore that"
      + " succeed")
  static void section6NoOtherCallIsAChange(Check check) {
    HopscotchCourt x = new HopscotchCourt();
    x.pass();
    x.append(0x20, 0, 0, 0, 0);
    x.save(0);
    x.save(1);
    x.writeCourt();
    x.writtenByte(0);
    x.errorPosition();
    x.count(0);
    x.bestClaim(0);
    x.turnsToCrown(0);
    x.firstThrough();
    x.playable(0);
    x.hopFault(0);
    dueUndo(check, "no change", x, 1);
  }

  @Sentence("The changes are all calls of load, turn, pass, claim, release, setDrift, setPlayer, mark and restore that"
      + " succeed")
  static void section6ATurnWithAFaultIsAChange(Check check) {
    HopscotchCourt x = Courts.of("court one one;player a reach 1 marker 2;player b;");
    x.turn(0, 0);
    check.due("fault of the throw", x.player(0, 9), 2);
    x.pass();
    x.turn(1, 0);
    check.due("fault of the hops", x.player(0, 9), 4);
    check.due("undone", x.undo(), 3);
    check.due("undone", x.undo(), 2);
    check.due("undone", x.undo(), 1);
    check.due("the marker lies again", x.player(0, 5), 2);
  }

  @Sentence("(also if nothing is another one then")
  static void section6AChangeOfNothingIsAChange(Check check) {
    HopscotchCourt x = new HopscotchCourt();
    x.setDrift(0);
    x.setPlayer(0, 0, 2);
    x.setPlayer(0, 1, 3);
    x.setPlayer(0, 2, 1);
    x.setPlayer(0, 3, 0);
    x.mark(0, HopscotchCourt.NONE);
    x.save(0);
    x.restore(0);
    Courts.load(x, "court one one;player a;player b;");
    dueUndo(check, "eight changes of nothing", x, 8);
  }

  @Sentence("a text with an error is no change, nor is a refusal)")
  static void section6ATextWithAnErrorIsNoChange(Check check) {
    HopscotchCourt x = new HopscotchCourt();
    x.pass();
    Courts.load(x, "court one one;player a;player a;");
    Courts.load(x, "");
    Courts.load(x, "court one one;player a reach 5;player b;");
    Courts.load(x, "court one one one one one one one one one one one");
    dueUndo(check, "texts with errors", x, 1);
  }

  @Sentence("a text with an error is no change, nor is a refusal)")
  static void section6ARefusalIsNoChange(Check check) {
    HopscotchCourt x = Courts.of("court one one;player a owns 1;player b claims 1;");
    check.due("refused", x.claim(0, 2), -11);
    check.due("refused", x.claim(1, 1), -12);
    check.due("refused", x.release(2), -13);
    dueUndo(check, "refusals", x, 1);
  }

  @Sentence("The latest 8 changes can be undone, older ones cannot any more")
  static void section6EightChangesCanBeUndone(Check check) {
    HopscotchCourt x = new HopscotchCourt();
    for (int drift = 1; drift <= 8; drift++) {
      x.setDrift(drift);
    }
    for (int left = 7; left >= 0; left--) {
      check.due("left", x.undo(), left);
      check.due("drift", x.count(3), left);
    }
    check.dueState("no ninth", () -> x.undo());
  }

  @Sentence("The latest 8 changes can be undone, older ones cannot any more")
  static void section6ANinthChangeMakesTheFirstOneStay(Check check) {
    HopscotchCourt x = new HopscotchCourt();
    for (int drift = 1; drift <= 9; drift++) {
      x.setDrift(drift);
    }
    dueUndo(check, "nine changes", x, 8);
    check.due("the first change stays", x.count(3), 1);
    x.setDrift(-1);
    check.due("a new one can be undone", x.undo(), 0);
    check.due("the first change stays", x.count(3), 1);
  }

  @Sentence("The latest 8 changes can be undone, older ones cannot any more")
  static void section6AnUndoneChangeGivesNoOlderOneBack(Check check) {
    HopscotchCourt x = new HopscotchCourt();
    for (int drift = 1; drift <= 9; drift++) {
      x.setDrift(drift);
    }
    x.undo();
    x.undo();
    x.undo();
    x.setDrift(-9);
    dueUndo(check, "nine, three undone and one more", x, 6);
    check.due("the first change stays", x.count(3), 1);
  }

  @Sentence("undoing a change brings back everything as it was before it")
  static void section6UndoBringsEverythingBack(Check check) {
    HopscotchCourt x = Courts.of("court one two;drift 2;player abc target 3 claims 8 owns 1 marker 2;player b;");
    x.setPlayer(0, 0, 3);
    String before = Courts.told(x);
    String written = Courts.written(x);
    check.due("a turn without fault", x.turn(10, 1), 0);
    check.due("through", x.player(0, 4), 1);
    x.undo();
    check.dueText("behind undo of a turn", Courts.told(x), before);
    Courts.load(x, "court two two two;drift 5;player z owns 6;player y;player x;");
    x.undo();
    check.dueText("behind undo of load", Courts.told(x), before);
    check.dueText("the names", Courts.written(x), written);
  }

  @Sentence("undoing a change brings back everything as it was before it")
  static void section6UndoBringsBackTargetsOfOthers(Check check) {
    HopscotchCourt x = Courts.of("court one one;player a claims 1;player b owns 2;player c;");
    x.claim(0, 1);
    check.due("target of b", x.player(1, 2), 2);
    check.due("target of c", x.player(2, 2), 0);
    x.undo();
    check.due("target of b", x.player(1, 2), 1);
    check.due("target of c", x.player(2, 2), 1);
  }

  @Sentence("but not the text buffer")
  static void section6UndoLeavesTheTextBuffer(Check check) {
    HopscotchCourt x = new HopscotchCourt();
    Courts.append(x, "court one two;");
    x.pass();
    Courts.append(x, "player a;player b;");
    x.undo();
    check.due("the length stays", x.append(0, 0, 0, 0, 0), 32);
    check.due("load", x.load(), 3);
    x.undo();
    check.due("the buffer stays empty", x.append(0, 0, 0, 0, 0), 0);
  }

  @Sentence("the position of the error")
  static void section6UndoLeavesThePositionOfTheError(Check check) {
    HopscotchCourt x = new HopscotchCourt();
    x.pass();
    Courts.load(x, "court x");
    x.undo();
    check.due("with an error", x.errorPosition(), 6);
    Courts.load(x, "court one one;player a;player b;");
    x.undo();
    check.due("without an error", x.errorPosition(), -1);
  }

  @Sentence("the written text and what was saved.")
  static void section6UndoLeavesTheWrittenText(Check check) {
    HopscotchCourt x = new HopscotchCourt();
    x.mark(0, 2);
    check.due("length", x.writeCourt(), 4);
    x.undo();
    check.due("the marker", x.writtenByte(3), '*');
    check.dueIndex("nothing behind it", () -> x.writtenByte(4));
  }

  @Sentence("the written text and what was saved.")
  static void section6UndoLeavesWhatWasSaved(Check check) {
    HopscotchCourt x = new HopscotchCourt();
    x.setDrift(4);
    x.save(1);
    x.undo();
    check.due("undone", x.count(3), 0);
    x.restore(1);
    check.due("saved", x.count(3), 4);
  }

  @Sentence("Refused calls return -10 minus the reason; the lowest one is told: 1 the player has no claim")
  static void section6WithoutClaimAClaimIsRefused(Check check) {
    HopscotchCourt x = Courts.of("court one one;player a;player b claims 1;");
    String before = Courts.told(x);
    check.due("no claim", x.claim(0, 1), -11);
    check.dueText("nothing was changed", Courts.told(x), before);
    check.due("with a claim", x.claim(1, 1), 1);
    check.due("the last one is used", x.claim(1, 2), -11);
  }

  @Sentence("the lowest one is told: 1 the player has no claim")
  static void section6TheLowestReasonIsTold(Check check) {
    HopscotchCourt x = Courts.of("court one one;player a owns 1;player b;");
    check.due("no claim, and owned by another", x.claim(1, 1), -11);
    check.due("no claim, and owned by itself", x.claim(0, 1), -11);
  }

  @Sentence("2 the square is owned")
  static void section6AnOwnedSquareIsRefused(Check check) {
    HopscotchCourt x = Courts.of("court one one;player a claims 1 owns 1;player b claims 1;");
    String before = Courts.told(x);
    check.due("owned by itself", x.claim(0, 1), -12);
    check.due("owned by another", x.claim(1, 1), -12);
    check.dueText("nothing was changed", Courts.told(x), before);
  }

  @Sentence("3 the square is not owned.")
  static void section6ReleaseOfAFreeSquareIsRefused(Check check) {
    HopscotchCourt x = Courts.of("court one one;player a owns 1;player b;");
    String before = Courts.told(x);
    check.due("free", x.release(2), -13);
    check.dueText("nothing was changed", Courts.told(x), before);
    check.due("owned", x.release(1), 0);
    check.due("free by now", x.release(1), -13);
  }

  @Sentence("A method that throws an exception changes nothing.")
  static void section7AnExceptionChangesNothing(Check check) {
    HopscotchCourt x = Courts.of("court one one;drift 1;player a claims 1 marker 1;player b;");
    x.save(0);
    x.writeCourt();
    Courts.append(x, "court");
    String before = Courts.told(x);
    check.dueArgument("turn", () -> x.turn(200, 0));
    check.dueArgument("turn", () -> x.turn(1, 2));
    check.dueIndex("claim", () -> x.claim(0, 3));
    check.dueIndex("claim", () -> x.claim(2, 1));
    check.dueIndex("release", () -> x.release(0));
    check.dueArgument("setDrift", () -> x.setDrift(10));
    check.dueArgument("setPlayer", () -> x.setPlayer(0, 4, 1));
    check.dueArgument("setPlayer", () -> x.setPlayer(0, 2, 3));
    check.dueIndex("mark", () -> x.mark(0, 3));
    check.dueIndex("mark", () -> x.mark(2, -1));
    check.dueState("restore", () -> x.restore(1));
    check.dueIndex("restore", () -> x.restore(2));
    check.dueIndex("writtenByte", () -> x.writtenByte(9));
    check.dueText("nothing was changed", Courts.told(x), before);
    check.due("the buffer stays", x.append(0, 0, 0, 0, 0), 5);
    check.due("the written text stays", x.writtenByte(1), '*');
    check.due("no change but the text", x.undo(), 0);
  }

  @Sentence("A method that throws an exception changes nothing.")
  static void section7AnUndoThatThrowsChangesNothing(Check check) {
    HopscotchCourt x = new HopscotchCourt();
    String before = Courts.told(x);
    check.dueState("undo", () -> x.undo());
    check.dueState("undo", () -> x.undo());
    check.dueText("nothing was changed", Courts.told(x), before);
    x.setDrift(1);
    check.due("one change", x.undo(), 0);
    check.dueText("undone", Courts.told(x), before);
  }

  @Sentence("A method that throws an exception changes nothing.")
  static void section7AnAppendThatThrowsAppendsNothing(Check check) {
    HopscotchCourt x = new HopscotchCourt();
    String text = "court one one;player a;player b;";
    Courts.append(x, text + " ".repeat(590 - text.length()));
    check.dueState("eleven bytes more", () -> x.append(0x20202020, 0x20202020, 0, 0x202020, 0));
    check.due("the length stays", x.append(0, 0, 0, 0, 0), 590);
    check.due("the text stays", x.load(), 2);
  }

  @Sentence("If several exceptions apply, the one named first is thrown.")
  static void section7TheFirstExceptionIsThrown(Check check) {
    HopscotchCourt x = new HopscotchCourt();
    check.dueIndex("player", () -> x.player(2, 10));
    check.dueIndex("player", () -> x.player(-1, -1));
    check.dueIndex("square", () -> x.square(0, 5));
    check.dueIndex("square", () -> x.square(3, -1));
    check.dueIndex("throwFault", () -> x.throwFault(2, 200, 0));
    check.dueIndex("throwFault", () -> x.throwFault(-1, 0, 2));
    check.dueIndex("setPlayer", () -> x.setPlayer(2, 4, 0));
    check.dueIndex("setPlayer", () -> x.setPlayer(-1, 0, 5));
    check.dueIndex("restore", () -> x.restore(2));
    check.dueIndex("restore", () -> x.restore(-1));
  }

  @Sentence("An IndexOutOfBoundsException is thrown if a player, square, row or other thing with a number does not exist.")
  static void section7ThingsThatDoNotExist(Check check) {
    HopscotchCourt x = Courts.of("court one one;player a claims 1;player b;player c;");
    int[] numbers = {Integer.MIN_VALUE, -100, -1, 3, 6, 100, Integer.MAX_VALUE};
    for (int player : numbers) {
      check.dueIndex("player " + player, () -> x.player(player, 0));
      check.dueIndex("claim by " + player, () -> x.claim(player, 1));
      check.dueIndex("mark of " + player, () -> x.mark(player, 1));
      check.dueIndex("footing of " + player, () -> x.footing(player, 0));
    }
    for (int square : new int[] {Integer.MIN_VALUE, -100, -1, 0, 3, 32, 33, Integer.MAX_VALUE}) {
      check.dueIndex("square " + square, () -> x.square(square, 0));
      check.dueIndex("claim of " + square, () -> x.claim(0, square));
      check.dueIndex("release of " + square, () -> x.release(square));
    }
    for (int row : new int[] {Integer.MIN_VALUE, -100, -1, 2, 9, 10, Integer.MAX_VALUE}) {
      check.dueIndex("row " + row, () -> x.row(row));
      check.dueIndex("footing in " + row, () -> x.footing(0, row));
    }
  }

  @Sentence("The constants: `NONE = -1`: The value -1: there is none.")
  static void section7NoneIsMinus1(Check check) {
    check.due("NONE", HopscotchCourt.NONE, -1);
    check.due("no marker", new HopscotchCourt().player(0, 5), HopscotchCourt.NONE);
  }

  @Sentence("`START = -100`: Told of the start as a row of a way.")
  static void section7StartIsMinus100(Check check) {
    check.due("START", HopscotchCourt.START, -100);
    check.due("the last place", new HopscotchCourt().place(0, true, 2), HopscotchCourt.START);
  }

  @Sentence("`SYNTAX_ERROR = -2`: Error code of load: the text does not follow the grammar.")
  static void section7SyntaxErrorIsMinus2(Check check) {
    check.due("SYNTAX_ERROR", HopscotchCourt.SYNTAX_ERROR, -2);
    check.dueLoad("court^", -2);
  }

  @Sentence("`VALUE_ERROR = -3`: Error code of load: a number out of its range.")
  static void section7ValueErrorIsMinus3(Check check) {
    check.due("VALUE_ERROR", HopscotchCourt.VALUE_ERROR, -3);
    check.dueLoad("court one one;drift ^10;", -3);
  }

  @Sentence("`TWICE = -4`: Error code of load: something that was told already.")
  static void section7TwiceIsMinus4(Check check) {
    check.due("TWICE", HopscotchCourt.TWICE, -4);
    check.dueLoad("court one one;player a;player ^a;", -4);
  }

  @Sentence("`TOO_MANY = -5`: Error code of load: there is too much of something.")
  static void section7TooManyIsMinus5(Check check) {
    check.due("TOO_MANY", HopscotchCourt.TOO_MANY, -5);
    check.dueLoad("court one one one one one one one one one one ^one", -5);
  }
}
