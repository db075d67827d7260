import java.nio.charset.StandardCharsets;

/** Brings texts into a court and out of it. */
final class Courts {
  private Courts() {}

  static HopscotchCourt of(String text) {
    HopscotchCourt court = new HopscotchCourt();
    int answer = load(court, text);
    if (answer < 0) {
      throw new IllegalStateException(text + " answered " + answer);
    }
    return court;
  }

  static int load(HopscotchCourt court, String text) {
    append(court, text);
    return court.load();
  }

  static void append(HopscotchCourt court, String text) {
    byte[] bytes = text.getBytes(StandardCharsets.ISO_8859_1);
    for (int at = 0; at < bytes.length; at += 20) {
      court.append(four(bytes, at), four(bytes, at + 4), four(bytes, at + 8),
          four(bytes, at + 12), four(bytes, at + 16));
    }
  }

  private static int four(byte[] bytes, int at) {
    int four = 0;
    for (int k = at; k < at + 4; k++) {
      four = four << 8 | (k < bytes.length ? bytes[k] & 255 : 0);
    }
    return four;
  }

  /** All that the calls of the setup tell; it makes at most 181 calls, of a small court 43. */
  static String told(HopscotchCourt court) {
    StringBuilder told = new StringBuilder();
    for (int what = 0; what <= 10; what++) {
      told.append(' ').append(court.count(what));
    }
    for (int player = 0; player < court.count(2); player++) {
      for (int what = 0; what <= 9; what++) {
        told.append(' ').append(court.player(player, what));
      }
    }
    for (int square = 1; square <= court.count(1); square++) {
      for (int what = 0; what <= 4; what++) {
        told.append(' ').append(court.square(square, what));
      }
    }
    return told.toString();
  }

  static String written(HopscotchCourt court) {
    StringBuilder text = new StringBuilder();
    int length = court.writeCourt();
    for (int index = 0; index < length; index++) {
      text.append((char) court.writtenByte(index));
    }
    return text.toString();
  }

  static String way(HopscotchCourt court, int player, boolean back) {
    StringBuilder way = new StringBuilder();
    for (int hop = 0; court.place(player, back, hop) != HopscotchCourt.NONE; hop++) {
      way.append(hop == 0 ? "" : " ").append(court.place(player, back, hop));
    }
    return way.toString();
  }
}
