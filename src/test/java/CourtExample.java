/** The example of README.md: each line behind a print tells what is printed. */
public final class CourtExample {
  public static void main(String[] args) {
    HopscotchCourt court = new HopscotchCourt();
    read(court, "court one two one; player ann claims 1; player bob reach 1;");
    System.out.println(court.load());                 // 4
    System.out.println(court.bestThrow(0));           // 2
    System.out.println(court.cost(0, false));         // 6
    System.out.println(court.place(0, false, 0));     // 1
    System.out.println(court.turn(1, 0));             // 0
    System.out.println(court.player(0, 2));           // 2
    System.out.println(court.turn(1, 0));             // 4
    System.out.println(court.claim(0, 2));            // 1
    System.out.println(written(court));               // 1* 2@ann/3 4
    System.out.println(court.undo());                 // 3
    System.out.println(written(court));               // 1* 2/3 4

    read(court, "court one two three;");
    System.out.println(court.load());                 // -2
    System.out.println(court.errorPosition());        // 14
  }

  private static void read(HopscotchCourt court, String text) {
    for (int at = 0; at < text.length(); at += 4) {
      court.append(four(text, at), 0, 0, 0, 0);
    }
  }

  private static int four(String text, int from) {
    int four = 0;
    for (int at = from; at < from + 4; at++) {
      four = four << 8 | (at < text.length() ? text.charAt(at) : 0);
    }
    return four;
  }

  private static String written(HopscotchCourt court) {
    StringBuilder text = new StringBuilder();
    int length = court.writeCourt();
    for (int index = 0; index < length; index++) {
      text.append((char) court.writtenByte(index));
    }
    return text.toString();
  }
}
