import java.util.Random;

/** Texts of courts, most of them without an error. */
final class RandomTexts {
  private static final String[] WORDS = {"court", "one", "two", "drift", "player", "reach", "balance",
      "target", "claims", "owns", "marker", ";", "-", "0", "1", "20", "abcdefghi", "a", " ", "\u00e9"};

  private final Random random;

  RandomTexts(Random random) {
    this.random = random;
  }

  String next() {
    String text = court();
    int kind = random.nextInt(10);
    if (kind == 0) {
      int at = random.nextInt(text.length());
      text = text.substring(0, at) + text.substring(at + 1);
    } else if (kind == 1) {
      int at = random.nextInt(text.length());
      text = text.substring(0, at) + WORDS[random.nextInt(WORDS.length)] + text.substring(at);
    } else if (kind == 2) {
      text = text.substring(0, random.nextInt(text.length()));
    }
    return text.length() > 600 ? text.substring(0, 600) : text;
  }

  private String court() {
    StringBuilder text = new StringBuilder(gap()).append("court");
    int rows = chance(30) ? random.nextInt(13) : 2 + random.nextInt(9);
    int squares = 0;
    for (int row = 0; row < rows; row++) {
      boolean two = random.nextBoolean();
      squares += two ? 2 : 1;
      text.append(' ').append(gap()).append(two ? "two" : "one");
    }
    text.append(gap()).append(';');
    if (chance(2)) {
      text.append(gap()).append("drift").append(gap()).append(chance(2) ? "-" : "");
      text.append(gap()).append(number(0, 9)).append(gap()).append(';');
    }
    int players = chance(30) ? random.nextInt(8) : 2 + random.nextInt(5);
    boolean[] owned = new boolean[squares + 2];
    int greed = random.nextInt(4);
    for (int player = 0; player < players; player++) {
      addPlayer(text, player, squares, owned, greed);
    }
    return text.append(gap()).toString();
  }

  private void addPlayer(StringBuilder text, int player, int squares, boolean[] owned, int greed) {
    text.append(gap()).append("player ").append(gap()).append(name(player)).append(' ');
    addPart(text, "reach", 1, 4);
    addPart(text, "balance", 1, 9);
    addPart(text, "target", 1, squares);
    addPart(text, "claims", 0, 9);
    for (int k = 0; k < greed; k++) {
      int square = 1 + random.nextInt(squares + 1);
      if (!owned[square] && square <= squares || chance(60)) {
        owned[square] = true;
        text.append(gap()).append("owns").append(gap()).append(square);
      }
    }
    if (chance(3)) {
      addPart(text, "marker", 1, squares);
    }
    text.append(gap()).append(';');
  }

  private void addPart(StringBuilder text, String word, int low, int high) {
    if (chance(2)) {
      text.append(gap()).append(word).append(gap()).append(number(low, high));
    }
  }

  private String number(int low, int high) {
    int number = low + random.nextInt(Math.max(1, high - low + 1));
    if (chance(80)) {
      number = chance(2) ? high + 1 : Math.max(0, low - 1);
    }
    return (chance(10) ? "00" : "") + number;
  }

  private String name(int player) {
    if (chance(60)) {
      return chance(2) ? "owns" : "a";
    }
    return "abcdefgh".substring(random.nextInt(7), 8) + (char) ('a' + player);
  }

  private String gap() {
    return chance(8) ? chance(4) ? "  " : " " : "";
  }

  private boolean chance(int oneOf) {
    return random.nextInt(oneOf) == 0;
  }
}
