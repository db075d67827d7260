/** Promises 32 and 33. */
public final class WritingTest {
  private static final Check check = new Check();

  public static void main(String[] args) {
    theCourtIsWritten();
    theLongestText();
    theWrittenTextStays();
    check.end();
  }

  private static void theCourtIsWritten() {
    HopscotchCourt x = new HopscotchCourt();
    check.due("32 length", x.writeCourt(), 3);
    check.dueText("32 a new court", Courts.written(x), "1 2");
    Courts.load(x, "court one two two one;player ann owns 2 owns 6 marker 2;player b owns 5 marker 1;player c marker 1;");
    check.dueText("32 owners and markers", Courts.written(x), "1* 2@ann*/3 4/5@b 6@ann");
    x.mark(0, 5);
    x.release(2);
    check.dueText("32 later", Courts.written(x), "1* 2/3 4/5@b* 6@ann");
    check.due("32 length later", x.writeCourt(), 19);
  }

  private static void theLongestText() {
    StringBuilder text = new StringBuilder("court two two two two two two two two two two;player abcdefgh");
    StringBuilder written = new StringBuilder();
    for (int square = 1; square <= 20; square++) {
      text.append(" owns ").append(square);
      written.append(square == 1 ? "" : square % 2 == 0 ? "/" : " ").append(square).append("@abcdefgh");
    }
    HopscotchCourt x = Courts.of(text + ";player b;player c;player d;player e;player f marker 20;");
    check.dueText("32 all owned", Courts.written(x), written + "*");
    check.due("32 length of it", x.writeCourt(), 31 + 19 + 180 + 1);
  }

  private static void theWrittenTextStays() {
    HopscotchCourt x = new HopscotchCourt();
    check.dueIndex("33 none at first", () -> x.writtenByte(0));
    x.writeCourt();
    check.due("33 first", x.writtenByte(0), '1');
    check.due("33 second", x.writtenByte(1), ' ');
    check.due("33 last", x.writtenByte(2), '2');
    check.dueIndex("33 behind it", () -> x.writtenByte(3));
    check.dueIndex("33 -1", () -> x.writtenByte(-1));
    check.dueIndex("33 least", () -> x.writtenByte(Integer.MIN_VALUE));
    check.dueIndex("33 most", () -> x.writtenByte(Integer.MAX_VALUE));
    Courts.load(x, "court two two;player a marker 4;player b;");
    check.due("33 as it was written", x.writtenByte(2), '2');
    check.dueIndex("33 as long as it was written", () -> x.writtenByte(3));
    check.due("33 written anew", x.writeCourt(), 8);
    check.due("33 the marker", x.writtenByte(7), '*');
    x.undo();
    check.due("33 undo leaves it", x.writtenByte(7), '*');
    check.due("33 a shorter text", x.writeCourt(), 3);
    check.dueIndex("33 nothing of the longer one", () -> x.writtenByte(3));
  }
}
