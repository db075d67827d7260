/** Promises 32 and 33: texts that are written. */
final class WritingPromises {
  private WritingPromises() {}

  @Sentence("Writes the court, in place of what was written before")
  static void promise32ALaterTextReplacesTheEarlier(Check check) {
    HopscotchCourt x = Courts.of("court two two two two two;player a owns 10 marker 10;player b;");
    check.due("the longer one", x.writeCourt(), 1 + 9 + 9 + 1 + 2 + 1);
    Courts.load(x, "court one one;player a;player b;");
    check.due("the shorter one", x.writeCourt(), 3);
    check.due("its last byte", x.writtenByte(2), '2');
    check.dueIndex("nothing of the longer one", () -> x.writtenByte(3));
  }

  @Sentence("row by row, separated by spaces")
  static void promise32RowsAreSeparatedBySpaces(Check check) {
    check.dueText("two rows", Courts.written(new HopscotchCourt()), "1 2");
    check.dueText("ten rows", Courts.written(Courts.of("court" + " one".repeat(10) + ";player a;player b;")),
        "1 2 3 4 5 6 7 8 9 10");
    check.dueText("twenty squares", Courts.written(Courts.of("court" + " two".repeat(10) + ";player a;player b;")),
        "1/2 3/4 5/6 7/8 9/10 11/12 13/14 15/16 17/18 19/20");
  }

  @Sentence("for each square of the row its number, then @ and the name of its owner if it has one")
  static void promise32OwnersAreNamed(Check check) {
    HopscotchCourt x = Courts.of("court one two one;player z owns 1;player abcdefgh owns 3 owns 4;");
    check.dueText("owners", Courts.written(x), "1@z 2/3@abcdefgh 4@abcdefgh");
  }

  @Sentence("then * if a marker lies on it")
  static void promise32AMarkerIsOneStar(Check check) {
    HopscotchCourt x = Courts.of("court one two;player a owns 2 marker 1;player b marker 2;player c marker 2;");
    check.dueText("markers", Courts.written(x), "1* 2@a*/3");
    x.mark(1, HopscotchCourt.NONE);
    check.dueText("one of two is away", Courts.written(x), "1* 2@a*/3");
    x.mark(2, 3);
    check.dueText("the other one is elsewhere", Courts.written(x), "1* 2@a/3*");
  }

  @Sentence("the two squares of a row separated by a slash (byte 47).")
  static void promise32SquaresOfARowAreSeparatedByASlash(Check check) {
    HopscotchCourt x = Courts.of("court two one two;player a;player b;");
    check.dueText("slashes", Courts.written(x), "1/2 3 4/5");
    check.due("byte 47", x.writtenByte(1), 47);
    check.due("byte 32", x.writtenByte(3), 32);
  }

  @Sentence("Returns the length of the text.")
  static void promise32TheLengthIsReturned(Check check) {
    check.due("the shortest", new HopscotchCourt().writeCourt(), 3);
    StringBuilder text = new StringBuilder("court" + " two".repeat(10) + ";player abcdefgh");
    for (int square = 1; square <= 20; square++) {
      text.append(" owns ").append(square);
    }
    HopscotchCourt x = Courts.of(text + " marker 1;player b marker 4;player c marker 7;player d marker 10;"
        + "player e marker 13;player f marker 20;");
    // Numbers, separators, signs and names, and six markers.
    check.due("the longest", x.writeCourt(), 31 + 19 + 20 * 9 + 6);
    check.due("its last byte", x.writtenByte(235), '*');
    check.due("a digit of its last number", x.writtenByte(224), '2');
    check.dueIndex("nothing behind it", () -> x.writtenByte(236));
  }

  @Sentence("Returns a byte of the text that was written last; there is none at first.")
  static void promise33ThereIsNoByteAtFirst(Check check) {
    HopscotchCourt x = new HopscotchCourt();
    check.dueIndex("at first", () -> x.writtenByte(0));
    Courts.load(x, "court one one;player a;player b;");
    check.dueIndex("a text that was read is none", () -> x.writtenByte(0));
    x.writeCourt();
    check.due("the first byte", x.writtenByte(0), '1');
  }

  @Sentence("Returns a byte of the text that was written last")
  static void promise33TheTextStaysAsItWasWritten(Check check) {
    HopscotchCourt x = new HopscotchCourt();
    x.writeCourt();
    x.mark(0, 1);
    Courts.load(x, "court two two;player a;player b;");
    check.due("as it was", x.writtenByte(1), ' ');
    check.dueIndex("as long as it was", () -> x.writtenByte(3));
    x.writeCourt();
    check.due("written anew", x.writtenByte(1), '/');
  }

  @Sentence("Returns the byte.")
  static void promise33EachByteIsReturned(Check check) {
    HopscotchCourt x = Courts.of("court one one;player az owns 2 marker 2;player b;");
    int[] bytes = {'1', ' ', '2', '@', 'a', 'z', '*'};
    check.due("length", x.writeCourt(), bytes.length);
    for (int index = 0; index < bytes.length; index++) {
      check.due("byte " + index, x.writtenByte(index), bytes[index]);
    }
  }

  @Sentence("Throws `IndexOutOfBoundsException` if there is no such byte")
  static void promise33AWrongIndexIsRefused(Check check) {
    HopscotchCourt x = new HopscotchCourt();
    x.writeCourt();
    for (int index : new int[] {Integer.MIN_VALUE, -1, 3, 4, 300, Integer.MAX_VALUE}) {
      check.dueIndex("byte " + index, () -> x.writtenByte(index));
    }
    check.due("the last", x.writtenByte(2), '2');
  }
}
