/** Section 5 of the document: texts. */
final class TextSentences {
  private static final int SYNTAX = HopscotchCourt.SYNTAX_ERROR;
  private static final int VALUE = HopscotchCourt.VALUE_ERROR;
  private static final int TWICE = HopscotchCourt.TWICE;
  private static final int TOO_MANY = HopscotchCourt.TOO_MANY;
  private static final String HEAD = "court one two;";
  private static final String B = ";player b;";

  private TextSentences() {}

  private static void dueNumber(Check check, String text, int player, int what, int number) {
    check.due(what + " of " + player + " by " + text, Courts.of(text).player(player, what), number);
  }

  @Sentence("A court is read from a text of at most 600 bytes:")
  static void section5ATextHasUpTo600Bytes(Check check) {
    String text = HEAD + "player a" + B;
    check.dueLoad(text + " ".repeat(599 - text.length()), 3);
    check.dueLoad(text + " ".repeat(600 - text.length()), 3);
    check.dueLoad(" ".repeat(600 - text.length()) + text, 3);
    check.dueLoad(" ".repeat(600) + "^", SYNTAX);
    HopscotchCourt x = new HopscotchCourt();
    Courts.append(x, " ".repeat(600));
    check.dueState("a 601st", () -> x.append(0x20, 0, 0, 0, 0));
  }

  @Sentence("text = \"court\" row row { row } \";\" [ \"drift\" [ \"-\" ] N \";\" ] player player { player } .")
  static void section5ATextBeginsWithItsCourt(Check check) {
    check.dueLoad("^", SYNTAX);
    check.dueLoad("^;", SYNTAX);
    check.dueLoad("^one one;player a;player b;", SYNTAX);
    check.dueLoad("^kourt one one;player a;player b;", SYNTAX);
    check.dueLoad("^cour one one;player a;player b;", SYNTAX);
    check.dueLoad("^player a;player b;", SYNTAX);
    check.dueLoad("court^;player a;player b;", SYNTAX);
    check.dueLoad("court one^;player a;player b;", SYNTAX);
    check.dueLoad("court one one ^player a;player b;", SYNTAX);
    check.dueLoad("court one one;^;player a;player b;", SYNTAX);
    check.dueLoad("court ^court one one;player a;player b;", SYNTAX);
    check.dueLoad("court one one;player a;player b;^court one one;player a;player b;", SYNTAX);
  }

  @Sentence("text = \"court\" row row { row } \";\" [ \"drift\" [ \"-\" ] N \";\" ] player player { player } .")
  static void section5TheDriftStandsAheadOfThePlayers(Check check) {
    check.dueLoad("court one one;drift 3;player a;player b;", 2);
    check.dueLoad("court one one;drift ^;player a;player b;", SYNTAX);
    check.dueLoad("court one one;drift -^;player a;player b;", SYNTAX);
    check.dueLoad("court one one;drift -^-3;player a;player b;", SYNTAX);
    check.dueLoad("court one one;drift ^+3;player a;player b;", SYNTAX);
    check.dueLoad("court one one;drift 3 ^player a;player b;", SYNTAX);
    check.dueLoad("court one one;drift 3;^drift 3;player a;player b;", SYNTAX);
    check.dueLoad("court one one;player a;^drift 3;player b;", SYNTAX);
    check.dueLoad("^drift 3;court one one;player a;player b;", SYNTAX);
    check.dueLoad("court one one;^-3;player a;player b;", SYNTAX);
    check.dueLoad("court one one;^3;player a;player b;", SYNTAX);
  }

  @Sentence("text = \"court\" row row { row } \";\" [ \"drift\" [ \"-\" ] N \";\" ] player player { player } .")
  static void section5TwoPlayersStandAtTheEnd(Check check) {
    check.dueLoad("court one one;^", SYNTAX);
    check.dueLoad("court one one;player a;^", SYNTAX);
    check.dueLoad("court one one;player a;player b;", 2);
    check.dueLoad("court one one;player a;player b;^;", SYNTAX);
    check.dueLoad("court one one;player a;player b;^b", SYNTAX);
    check.dueLoad("court one one;player a;player b;^0", SYNTAX);
  }

  @Sentence("row = \"one\" | \"two\" .")
  static void section5ARowIsOneOrTwo(Check check) {
    check.dueLoad("court one two;player a;player b;", 3);
    check.dueLoad("court two one;player a;player b;", 3);
    check.dueLoad("court one ^on;player a;player b;", SYNTAX);
    check.dueLoad("court one ^ones;player a;player b;", SYNTAX);
    check.dueLoad("court one ^onetwo;player a;player b;", SYNTAX);
    check.dueLoad("court one ^tw;player a;player b;", SYNTAX);
    check.dueLoad("court one ^1;player a;player b;", SYNTAX);
    check.dueLoad("court one ^One;player a;player b;", SYNTAX);
    check.dueLoad("court one^,one;player a;player b;", SYNTAX);
  }

  @Sentence("player = \"player\" NAME [ \"reach\" N ] [ \"balance\" N ] [ \"target\" N ] [ \"claims\" N ] { \"owns\" N }"
      + " [ \"marker\" N ] \";\" .")
  static void section5PartsOfAPlayerHaveAnOrder(Check check) {
    String[] parts = {"reach 1 ", "balance 1 ", "target 1 ", "claims 1 ", "owns 1 ", "marker 1 "};
    for (int k = 0; k < parts.length; k++) {
      for (int other = 0; other < parts.length; other++) {
        boolean good = k < other;
        if (k != other) {
          check.dueLoad(HEAD + "player a " + parts[k] + (good ? "" : "^") + parts[other] + B, good ? 3 : SYNTAX);
        }
      }
    }
    check.dueLoad(HEAD + "player a " + String.join("", parts) + B, 3);
  }

  @Sentence("player = \"player\" NAME [ \"reach\" N ] [ \"balance\" N ] [ \"target\" N ] [ \"claims\" N ] { \"owns\" N }"
      + " [ \"marker\" N ] \";\" .")
  static void section5EachPartOfAPlayerHasANumber(Check check) {
    String[] parts = {"reach", "balance", "target", "claims", "owns", "marker"};
    for (String part : parts) {
      check.dueLoad(HEAD + "player a " + part + "^;player b;", SYNTAX);
      check.dueLoad(HEAD + "player a " + part + " ^x;player b;", SYNTAX);
      check.dueLoad(HEAD + "player a " + part + " ^-1;player b;", SYNTAX);
      check.dueLoad(HEAD + "player a " + part + " 1 ^1;player b;", SYNTAX);
      check.dueLoad(HEAD + "player a " + part + "  ^", SYNTAX);
      check.dueLoad(HEAD + "player a " + part + " 1^", SYNTAX);
      check.dueLoad(HEAD + "player a ^" + part + "s 1;player b;", SYNTAX);
      check.dueLoad(HEAD + "player a ^" + part.substring(1) + " 1;player b;", SYNTAX);
    }
  }

  @Sentence("player = \"player\" NAME [ \"reach\" N ] [ \"balance\" N ] [ \"target\" N ] [ \"claims\" N ] { \"owns\" N }"
      + " [ \"marker\" N ] \";\" .")
  static void section5APlayerHasANameAndAnEnd(Check check) {
    check.dueLoad(HEAD + "player^;player b;", SYNTAX);
    check.dueLoad(HEAD + "player ^1;player b;", SYNTAX);
    check.dueLoad(HEAD + "player^", SYNTAX);
    check.dueLoad(HEAD + "player a ^b;player b;", SYNTAX);
    check.dueLoad(HEAD + "player a ^player b;", SYNTAX);
    check.dueLoad(HEAD + "player a^", SYNTAX);
    check.dueLoad(HEAD + "player a;^;player b;", SYNTAX);
    check.dueLoad(HEAD + "^players a;player b;", SYNTAX);
    check.dueLoad(HEAD + "^playe a;player b;", SYNTAX);
  }

  @Sentence("Braces mean any number of repetitions")
  static void section5SquaresMayBeOwnedAnyNumberOfTimes(Check check) {
    dueNumber(check, HEAD + "player a" + B, 0, 6, 0);
    dueNumber(check, HEAD + "player a owns 2" + B, 0, 6, 1 << 2);
    dueNumber(check, HEAD + "player a owns 3 owns 1 owns 2" + B, 0, 6, 1 << 1 | 1 << 2 | 1 << 3);
    StringBuilder all = new StringBuilder("court" + " two".repeat(10) + ";player a");
    for (int square = 1; square <= 20; square++) {
      all.append(" owns ").append(square);
    }
    dueNumber(check, all + B, 0, 6, (1 << 21) - 2);
    check.dueLoad(all + " owns ^20;player b;", TWICE);
    check.dueLoad(all + " owns ^21;player b;", VALUE);
  }

  @Sentence("brackets that a part may lack")
  static void section5EachPartMayLack(Check check) {
    String[] parts = {" reach 4", " balance 9", " target 3", " claims 9", " marker 3"};
    int[] whats = {0, 1, 2, 3, 5};
    int[] without = {2, 3, 1, 0, -1};
    int[] with = {4, 9, 3, 9, 3};
    for (int lacking = 0; lacking < parts.length; lacking++) {
      StringBuilder text = new StringBuilder(HEAD + "player a");
      for (int k = 0; k < parts.length; k++) {
        text.append(k == lacking ? "" : parts[k]);
      }
      HopscotchCourt x = Courts.of(text + B);
      for (int k = 0; k < parts.length; k++) {
        check.due(text + parts[k], x.player(0, whats[k]), k == lacking ? without[k] : with[k]);
      }
    }
  }

  @Sentence("A word is the longest possible sequence of the letters a to z")
  static void section5AWordIsAsLongAsItCanBe(Check check) {
    check.dueLoad("^courtone one;player a;player b;", SYNTAX);
    check.dueLoad("court ^oneone;player a;player b;", SYNTAX);
    check.dueLoad("court one one;^playera;player b;", SYNTAX);
    check.dueLoad("court one one;^driftone 1;player a;player b;", SYNTAX);
    dueNumber(check, HEAD + "player areach reach4balance9target3claims9owns1marker2" + B, 0, 0, 4);
  }

  @Sentence("A word is the longest possible sequence of the letters a to z")
  static void section5LettersAreAToZ(Check check) {
    check.dueLoad(HEAD + "player az" + B, 3);
    check.dueLoad(HEAD + "player a^`;player b;", SYNTAX);
    check.dueLoad(HEAD + "player z^{;player b;", SYNTAX);
    check.dueLoad(HEAD + "player a^A;player b;", SYNTAX);
    check.dueLoad(HEAD + "player a^_;player b;", SYNTAX);
    check.dueLoad(HEAD + "player ^\u00e4;player b;", SYNTAX);
    check.dueLoad(HEAD + "player a^\u00e1;player b;", SYNTAX);
    check.dueLoad("^Court one one;player a;player b;", SYNTAX);
  }

  @Sentence("a NAME is any word of at most 8 letters")
  static void section5ANameHas1To8Letters(Check check) {
    HopscotchCourt x = Courts.of(HEAD + "player z owns 1;player abcdefgh owns 2;");
    check.dueText("names", Courts.written(x), "1@z 2@abcdefgh/3");
  }

  @Sentence("(also one that the grammar has")
  static void section5AWordOfTheGrammarCanBeAName(Check check) {
    String[] words = {"court", "one", "two", "drift", "player", "reach", "balance", "target", "claims", "owns", "marker"};
    for (String word : words) {
      HopscotchCourt x = Courts.of(HEAD + "player " + word + " owns 1;player b;");
      check.dueText(word, Courts.written(x), "1@" + word + " 2/3");
    }
    dueNumber(check, HEAD + "player reach reach 4" + B, 0, 0, 4);
    check.dueLoad(HEAD + "player reach ^4;player b;", SYNTAX);
  }

  @Sentence("a longer one is a SYNTAX_ERROR)")
  static void section5ANameOf9LettersIsTooLong(Check check) {
    check.dueLoad(HEAD + "player ^abcdefghi;player b;", SYNTAX);
    check.dueLoad(HEAD + "player a;player ^abcdefghi;", SYNTAX);
    check.dueLoad(HEAD + "player ^" + "a".repeat(500), SYNTAX);
  }

  @Sentence("N is the longest possible sequence of digits")
  static void section5ANumberIsAsLongAsItCanBe(Check check) {
    check.dueLoad(HEAD + "player a reach ^12;player b;", VALUE);
    check.dueLoad(HEAD + "player a claims ^10;player b;", VALUE);
    check.dueLoad(HEAD + "player a reach 1 ^2;player b;", SYNTAX);
    check.dueLoad(HEAD + "player a reach 1^x;player b;", SYNTAX);
    check.dueLoad(HEAD + "player a reach ^/1;player b;", SYNTAX);
    check.dueLoad(HEAD + "player a reach ^:1;player b;", SYNTAX);
    check.dueLoad(HEAD + "player a reach ^" + "9".repeat(500) + ";player b;", VALUE);
    // Numbers that would be in their range if they were held in 32, 64 or 8 bits.
    check.dueLoad(HEAD + "player a reach ^4294967298;player b;", VALUE);
    check.dueLoad(HEAD + "player a reach ^18446744073709551618;player b;", VALUE);
    check.dueLoad(HEAD + "player a reach ^258;player b;", VALUE);
    check.dueLoad(HEAD + "player a reach ^1" + "0".repeat(60) + "2;player b;", VALUE);
  }

  @Sentence("(zeros at its beginning do not matter)")
  static void section5ZerosAheadOfANumberDoNotMatter(Check check) {
    dueNumber(check, HEAD + "player a reach 04" + B, 0, 0, 4);
    dueNumber(check, HEAD + "player a reach " + "0".repeat(500) + "4" + B, 0, 0, 4);
    dueNumber(check, HEAD + "player a claims 00" + B, 0, 3, 0);
    dueNumber(check, HEAD + "player a owns 003" + B, 0, 6, 8);
    check.dueLoad(HEAD + "player a reach ^000;player b;", VALUE);
    check.dueLoad(HEAD + "player a reach ^005;player b;", VALUE);
    check.dueLoad(HEAD + "player a owns 1 owns ^01;player b;", TWICE);
  }

  @Sentence("Spaces (byte 32) may stand in front of every token and at the end of the text.")
  static void section5SpacesMayStandAheadOfTokens(Check check) {
    String text = "court one two;drift -3;player a reach 1 balance 2 target 3 claims 4 owns 1 owns 2 marker 3;player b;";
    String wide = text.replace(" ", "   ").replace(";", "  ;  ").replace("-3", " - 3");
    HopscotchCourt x = Courts.of("  " + wide);
    check.dueText("with spaces", Courts.told(x), Courts.told(Courts.of(text)));
    check.due("drift", x.count(3), -3);
    check.dueLoad(text + "     ", 3);
    check.dueLoad(text.replace("h 1", "h1").replace("e 2", "e2").replace("t 3", "t3").replace("s 4 ", "s4")
        .replace("s 1 ", "s1").replace("s 2 ", "s2").replace("t -3", "t-3").replace("r 3", "r3"), 3);
    check.dueLoad("court one two;player a;player b;  ^;", SYNTAX);
  }

  @Sentence("Spaces (byte 32) may stand in front of every token and at the end of the text.")
  static void section5NoOtherByteIsASpace(Check check) {
    for (int sign = 1; sign < 256; sign++) {
      if (sign != ' ') {
        check.dueLoad(HEAD + "player a" + B + "^" + (char) sign, SYNTAX);
        check.dueLoad(HEAD + "player a" + B + " ^" + (char) sign + " ", SYNTAX);
      }
    }
    check.dueLoad("^\tcourt one one;player a;player b;", SYNTAX);
    check.dueLoad("court one one;^\nplayer a;player b;", SYNTAX);
  }

  @Sentence("The drift is 0 without it")
  static void section5WithoutDriftItIs0(Check check) {
    HopscotchCourt x = Courts.of(HEAD + "drift 4;player a" + B);
    check.due("with", x.count(3), 4);
    Courts.load(x, HEAD + "player a" + B);
    check.due("without", x.count(3), 0);
  }

  @Sentence("(the number behind the sign 0 to 9)")
  static void section5TheDriftIs0To9BehindTheSign(Check check) {
    int[] drifts = {0, 9, 0, -9, -9};
    String[] texts = {"0", "9", "-0", "-9", " - 0009"};
    for (int k = 0; k < drifts.length; k++) {
      check.due("drift " + texts[k], Courts.of(HEAD + "drift " + texts[k] + ";player a" + B).count(3), drifts[k]);
    }
    check.dueLoad(HEAD + "drift ^10;player a;player b;", VALUE);
    check.dueLoad(HEAD + "drift -^10;player a;player b;", VALUE);
    check.dueLoad(HEAD + "drift - ^0010;player a;player b;", VALUE);
  }

  @Sentence("of a player the reach (2 without it)")
  static void section5WithoutReachItIs2(Check check) {
    dueNumber(check, HEAD + "player a reach 1" + B, 0, 0, 1);
    dueNumber(check, HEAD + "player a reach 1" + B, 1, 0, 2);
    dueNumber(check, HEAD + "player a reach 4" + B, 0, 0, 4);
  }

  @Sentence("the balance (3 without it)")
  static void section5WithoutBalanceItIs3(Check check) {
    dueNumber(check, HEAD + "player a balance 1" + B, 0, 1, 1);
    dueNumber(check, HEAD + "player a balance 1" + B, 1, 1, 3);
    dueNumber(check, HEAD + "player a balance 9" + B, 0, 1, 9);
  }

  @Sentence("the target (1 without it)")
  static void section5WithoutTargetItIs1(Check check) {
    dueNumber(check, HEAD + "player a target 3" + B, 0, 2, 3);
    dueNumber(check, HEAD + "player a target 3" + B, 1, 2, 1);
    dueNumber(check, HEAD + "player a target 1" + B, 0, 2, 1);
  }

  @Sentence("the claims (0 to 9; 0 without it)")
  static void section5WithoutClaimsTheyAre0(Check check) {
    dueNumber(check, HEAD + "player a claims 9" + B, 0, 3, 9);
    dueNumber(check, HEAD + "player a claims 9" + B, 1, 3, 0);
    dueNumber(check, HEAD + "player a claims 0" + B, 0, 3, 0);
    check.dueLoad(HEAD + "player a claims ^10;player b;", VALUE);
  }

  @Sentence("squares that it owns")
  static void section5OwnedSquaresCostNoClaims(Check check) {
    HopscotchCourt x = Courts.of(HEAD + "player a owns 1 owns 3;player b claims 2 owns 2;");
    check.dueNumbers(x, 0, 2, 3, 1, 0, 0, -1, 1 << 1 | 1 << 3, 0, 0, 0);
    check.dueNumbers(x, 1, 2, 3, 2, 2, 0, -1, 1 << 2, 0, 0, 0);
  }

  @Sentence("and the square on which its marker lies (none without it).")
  static void section5WithoutMarkerThereIsNone(Check check) {
    HopscotchCourt x = Courts.of(HEAD + "player a marker 3;player b;player c marker 3;");
    check.due("marker of a", x.player(0, 5), 3);
    check.due("marker of b", x.player(1, 5), -1);
    check.due("markers on 3", x.square(3, 3), 0b101);
    check.due("a marker on another one's square",
        Courts.of(HEAD + "player a owns 3;player b marker 3;").player(1, 5), 3);
  }

  @Sentence("Behind the text targets that are forbidden become others, as told in section 1.")
  static void section5ForbiddenTargetsBecomeOthersBehindTheText(Check check) {
    // What is owned stands behind the target, in the text of another player.
    dueNumber(check, HEAD + "player a target 1;player b owns 1;", 0, 2, 2);
    dueNumber(check, HEAD + "player a target 1;player b owns 1;player c owns 2;", 0, 2, 3);
    dueNumber(check, HEAD + "player a target 3;player b owns 3;", 0, 2, 1);
    dueNumber(check, HEAD + "player a target 3;player b owns 3 owns 1;", 0, 2, 2);
    dueNumber(check, HEAD + "player a target 3;player b owns 3 owns 1 owns 2;", 0, 2, 0);
    dueNumber(check, HEAD + "player a owns 1;player b;", 1, 2, 2);
    dueNumber(check, HEAD + "player a target 2 owns 2" + B, 0, 2, 2);
  }

  @Sentence("Reading stops at the first error.")
  static void section5TheFirstErrorIsTold(Check check) {
    check.dueLoad("court one one;drift ^10;player a reach 9 owns 9;player a;", VALUE);
    check.dueLoad("court one one;player a reach ^9 owns 9;player a;", VALUE);
    check.dueLoad("court one one;player a;player ^a reach 9;", TWICE);
    check.dueLoad("court one one;player a reach 1 ^x reach 9;player a;", SYNTAX);
    check.dueLoad("court" + " one".repeat(10) + " ^one one x 10;", TOO_MANY);
  }

  @Sentence("If several error codes fit the same position, the first one in this list is reported:")
  static void section5AtOnePositionTheFirstCodeIsTold(Check check) {
    // Its first eight letters are another one's name; a square that is none is owned by nobody.
    check.dueLoad(HEAD + "player abcdefgh;player ^abcdefghi;", SYNTAX);
    check.dueLoad(HEAD + "player a owns ^4 owns 4;player b;", VALUE);
    check.dueLoad(HEAD + "player a;player b;player c;player d;player e;player f;^players;", SYNTAX);
    check.dueLoad("court" + " one".repeat(10) + " ^ones;", SYNTAX);
  }

  @Sentence("SYNTAX_ERROR: a byte or token that is not allowed here (at its first byte)")
  static void section5AForbiddenTokenIsToldAtItsFirstByte(Check check) {
    check.dueLoad("court one one;   ^plaier a;player b;", SYNTAX);
    check.dueLoad("court one one;player a   ^balanced 3;player b;", SYNTAX);
    check.dueLoad("court one one;player a   ^33;player b;", SYNTAX);
    check.dueLoad("court one one;player    ^abcdefghij;player b;", SYNTAX);
    check.dueLoad("court one one  ^:player a;player b;", SYNTAX);
    check.dueLoad("^\u00ffcourt one one;player a;player b;", SYNTAX);
  }

  @Sentence("or an unexpected end of the text (at the length of the text).")
  static void section5AnEndIsToldAtTheLength(Check check) {
    String text = "court one two;drift - 3;player a reach 1 owns 2 marker 3;player b";
    for (int length = 0; length <= text.length(); length++) {
      boolean inside = length > 0 && length < text.length() && Character.isLetter(text.charAt(length - 1))
          && Character.isLetter(text.charAt(length));
      if (!inside) {
        check.dueLoad(text.substring(0, length) + "^", SYNTAX);
        check.dueLoad(text.substring(0, length) + "   ^", SYNTAX);
      }
    }
    check.dueLoad(" ".repeat(600) + "^", SYNTAX);
  }

  @Sentence("VALUE_ERROR: a number out of its range")
  static void section5ANumberOutOfItsRangeIsAValueError(Check check) {
    String[] words = {"reach", "balance", "claims"};
    int[] low = {1, 1, 0};
    int[] high = {4, 9, 9};
    for (int k = 0; k < words.length; k++) {
      String part = HEAD + "player a " + words[k] + " ";
      check.dueLoad(part + low[k] + ";player b;", 3);
      check.dueLoad(part + high[k] + ";player b;", 3);
      check.dueLoad(part + "^" + (high[k] + 1) + ";player b;", VALUE);
      if (low[k] > 0) {
        check.dueLoad(part + "^0;player b;", VALUE);
      }
    }
  }

  @Sentence("or of a square that does not exist (at its first digit).")
  static void section5ASquareThatDoesNotExistIsAValueError(Check check) {
    for (String word : new String[] {"target", "owns", "marker"}) {
      String part = HEAD + "player a " + word + "  ";
      check.dueLoad(part + "1;player b;", 3);
      check.dueLoad(part + "3;player b;", 3);
      check.dueLoad(part + "^0;player b;", VALUE);
      check.dueLoad(part + "^4;player b;", VALUE);
      check.dueLoad(part + "^0004;player b;", VALUE);
      check.dueLoad("court" + " two".repeat(10) + ";player a " + word + " 20;player b;", 20);
      check.dueLoad("court" + " two".repeat(10) + ";player a " + word + " ^21;player b;", VALUE);
    }
  }

  @Sentence("TWICE: the NAME of another player")
  static void section5ANameIsTwice(Check check) {
    check.dueLoad(HEAD + "player a;player  ^a;", TWICE);
    check.dueLoad(HEAD + "player abcdefgh;player b;player ^abcdefgh;", TWICE);
    check.dueLoad(HEAD + "player a;player b;player c;player d;player e;player ^e;", TWICE);
    check.dueLoad(HEAD + "player a;player b;player c;player d;player e;player ^a;", TWICE);
    check.dueLoad(HEAD + "player abcdefgh;player abcdefg;player bcdefgh;player abcdefgg;", 3);
  }

  @Sentence("a square behind \"owns\" that is owned already.")
  static void section5AnOwnedSquareIsTwice(Check check) {
    check.dueLoad(HEAD + "player a owns 2 owns  ^2;player b;", TWICE);
    check.dueLoad(HEAD + "player a owns 2;player b owns 1 owns ^2;", TWICE);
    check.dueLoad(HEAD + "player a owns 2 marker 2;player b target 2 owns 1 marker 2;", 3);
  }

  @Sentence("TOO_MANY: an 11th row (at its word)")
  static void section5An11thRowIsTooMany(Check check) {
    String ten = "court" + " one".repeat(10);
    check.dueLoad(ten + ";player a;player b;", 10);
    check.dueLoad(ten + "  ^one;player a;player b;", TOO_MANY);
    check.dueLoad(ten + " ^two", TOO_MANY);
    check.dueLoad(ten + " ^three", SYNTAX);
    check.dueLoad(ten + "^", SYNTAX);
  }

  @Sentence("a 7th player (at the word player, before anything behind it is read).")
  static void section5A7thPlayerIsTooMany(Check check) {
    String six = "court one one;player a;player b;player c;player d;player e;player f;";
    check.dueLoad(six, 2);
    check.dueLoad(six + "  ^player g;", TOO_MANY);
    check.dueLoad(six + "^player", TOO_MANY);
    check.dueLoad(six + "^player a reach 9;", TOO_MANY);
    check.dueLoad(six + "^player 1", TOO_MANY);
    check.dueLoad(six + "^play", SYNTAX);
  }
}
