/** The texts that load reads (promises 3 and 4, section 5 of the document). */
public final class GrammarTest {
  private static final Check check = new Check();
  private static final int SYNTAX = HopscotchCourt.SYNTAX_ERROR;
  private static final int VALUE = HopscotchCourt.VALUE_ERROR;
  private static final int TWICE = HopscotchCourt.TWICE;
  private static final int TOO_MANY = HopscotchCourt.TOO_MANY;

  public static void main(String[] args) {
    rows();
    drifts();
    names();
    numbers();
    orderOfParts();
    owned();
    players();
    spacesAndOtherBytes();
    lengths();
    nothingOfOlderTexts();
    forbiddenTargets();
    check.end();
  }

  private static void due(String marked, int answer) {
    check.dueLoad(marked, answer);
  }

  private static void dueNumber(String text, int player, int what, int number) {
    HopscotchCourt x = Courts.of(text);
    check.due(text + " number " + what, player < 0 ? x.count(what) : x.player(player, what), number);
  }

  private static void rows() {
    due("court one one;player a;player b;", 2);
    due("court two two;player a;player b;", 4);
    due("court one two one one two two one one one one;player a;player b;", 13);
    due("court one one one one one one one one one one ^one;player a;player b;", TOO_MANY);
    due("court one one one one one one one one one one ^two", TOO_MANY);
    due("court one one one one one one one one one one ^onex;", SYNTAX);
    due("court one one one one one one one one one one ^", SYNTAX);
    due("court one^;player a;player b;", SYNTAX);
    due("court^;", SYNTAX);
    due("court one ^three;", SYNTAX);
    due("^kourt one one;player a;player b;", SYNTAX);
    due("court one ^xne;player a;player b;", SYNTAX);
    due("court one ^twx;player a;player b;", SYNTAX);
    due("court one one;^drixt 1;player a;player b;", SYNTAX);
    due("court one one;^xlayer a;player b;", SYNTAX);
    due("court one one;player a ^teach 1;player b;", SYNTAX);
    due("court one ^onetwo;", SYNTAX);
    due("court one one^,", SYNTAX);
    due("court one one ^1;", SYNTAX);
    due("^courtone one;player a;player b;", SYNTAX);
    due("^cour one one;player a;player b;", SYNTAX);
    due("^one one;", SYNTAX);
    due("^Court one one;", SYNTAX);
    due("^", SYNTAX);
    due("   ^", SYNTAX);
    due("court one one^", SYNTAX);
    due("court one one  ^", SYNTAX);
  }

  private static void drifts() {
    dueNumber("court one one;drift 9;player a;player b;", -1, 3, 9);
    dueNumber("court one one;drift0;player a;player b;", -1, 3, 0);
    dueNumber("court one one;drift-9;player a;player b;", -1, 3, -9);
    dueNumber("court one one ; drift - 0008 ; player a;player b;", -1, 3, -8);
    dueNumber("court one one;drift - 0;player a;player b;", -1, 3, 0);
    due("court one one;drift ^10;player a;player b;", VALUE);
    due("court one one;drift -^10;player a;player b;", VALUE);
    due("court one one;drift - ^0010;", VALUE);
    due("court one one;drift ^4294967296;", VALUE);
    due("court one one;drift^;player a;player b;", SYNTAX);
    due("court one one;drift -^-1;", SYNTAX);
    due("court one one;drift -^;", SYNTAX);
    due("court one one;drift ^", SYNTAX);
    due("court one one;drift 1 ^player a;player b;", SYNTAX);
    due("court one one;drift 1;^drift 1;player a;player b;", SYNTAX);
    due("court one one;^;player a;player b;", SYNTAX);
    due("court one one;player a;^drift 1;player b;", SYNTAX);
  }

  private static void names() {
    due("court one one;player abcdefgh;player abcdefg;", 2);
    due("court one one;player ^abcdefghi;player b;", SYNTAX);
    due("court one one;player a;player ^aaaaaaaaaaaaaaaa;", SYNTAX);
    due("court one one;player reach reach 3;player owns owns 1;player player;player court;", 2);
    due("court one one;player ^;player b;", SYNTAX);
    due("court one one;player ^1;player b;", SYNTAX);
    due("court one one;player ^A;player b;", SYNTAX);
    due("court one one;player a^B;player b;", SYNTAX);
    due("court one one;player ^", SYNTAX);
    due("court one one;^playera;player b;", SYNTAX);
    due("court one one;player a;player ^a;", TWICE);
    due("court one one;player ab;player a;player b;player  ^ab reach 9;", TWICE);
    due("court one one;player ab;player a;player abc;player ba;", 2);
    due("court one one;player abcdefgh;player b;player ^abcdefgh;", TWICE);
    HopscotchCourt x = Courts.of("court one one;player abcdefgh owns 1;player z owns 2;");
    check.dueText("names", Courts.written(x), "1@abcdefgh 2@z");
  }

  private static void numbers() {
    String head = "court one two;player a ";
    String[] words = {"reach", "balance", "target", "claims"};
    int[] low = {1, 1, 1, 0};
    int[] high = {4, 9, 3, 9};
    for (int what = 0; what < 4; what++) {
      String part = head + words[what] + " ";
      dueNumber(part + low[what] + ";player b;", 0, what, low[what]);
      dueNumber(part + high[what] + ";player b;", 0, what, high[what]);
      dueNumber(part + "000000000000000" + high[what] + ";player b;", 0, what, high[what]);
      due(part + "^" + (high[what] + 1) + ";player b;", VALUE);
      due(part + "^00" + (high[what] + 1) + ";player b;", VALUE);
      due(part + "^10000000000000000000000000000000000001;player b;", VALUE);
      due(part + "^4294967297;player b;", VALUE);
      due(part + "^18446744073709551617;player b;", VALUE);
      due(part + "^-1;player b;", SYNTAX);
      due(part + "^;player b;", SYNTAX);
      due(part + "1^x;player b;", SYNTAX);
    }
    due(head + "reach ^0;", VALUE);
    due(head + "balance ^0;", VALUE);
    due(head + "target ^000;", VALUE);
    due(head + "owns ^0;", VALUE);
    due(head + "owns ^4;", VALUE);
    due(head + "marker ^0;", VALUE);
    due(head + "marker ^4;", VALUE);
    due(head + "marker ^;", SYNTAX);
    due(head + "owns ^owns 1;", SYNTAX);
    dueNumber(head + "marker 03;player b;", 0, 5, 3);
    dueNumber(head + "owns 03;player b;", 0, 6, 8);
  }

  private static void orderOfParts() {
    due("court one one;player a reach1balance1target1claims1owns1owns2marker1;player b;", 2);
    due("court one one;player a balance 1 ^reach 1;player b;", SYNTAX);
    due("court one one;player a target 1 ^balance 1;player b;", SYNTAX);
    due("court one one;player a claims 1 ^target 1;player b;", SYNTAX);
    due("court one one;player a owns 1 ^claims 1;player b;", SYNTAX);
    due("court one one;player a marker 1 ^owns 1;player b;", SYNTAX);
    due("court one one;player a marker 1 ^marker 1;player b;", SYNTAX);
    due("court one one;player a reach 1 ^reach 1;player b;", SYNTAX);
    due("court one one;player a ^crowns 1;player b;", SYNTAX);
    due("court one one;player a ^reaches 1;player b;", SYNTAX);
    due("court one one;player a reach 1^", SYNTAX);
    due("court one one;player a^", SYNTAX);
    due("court one one;player a ^player b;", SYNTAX);
  }

  private static void owned() {
    due("court one one;player a owns 1 owns ^1;player b;", TWICE);
    due("court one one;player a owns 1;player b owns   ^001;", TWICE);
    due("court one one;player a owns 1 owns ^3;player b;", VALUE);
    due("court one one;player a owns 2;player b owns 1;", 2);
    StringBuilder all = new StringBuilder("court two two two two two two two two two two;player a");
    for (int square = 20; square >= 1; square--) {
      all.append(" owns ").append(square);
    }
    due(all + ";player b;", 20);
    due(all + " owns ^7;player b;", TWICE);
    dueNumber(all + ";player b;", 0, 6, (1 << 21) - 2);
    dueNumber(all + ";player b;", 1, 2, 0);
    dueNumber(all + ";player b;", -1, 6, 20);
  }

  private static void players() {
    String six = "court one one;player a;player b;player c;player d;player e;player f;";
    due(six, 2);
    due(six + "   ", 2);
    due(six + " ^player a;", TOO_MANY);
    due(six + " ^player", TOO_MANY);
    due(six + "^players", SYNTAX);
    due(six + "^;", SYNTAX);
    due("court one one;player a;^", SYNTAX);
    due("court one one;player a; ^", SYNTAX);
    due("court one one;^", SYNTAX);
    due("court one one;player a;player b;^court one one;", SYNTAX);
    due("court one one;player a;player b;^1", SYNTAX);
    due("court one one;player a;player b;^c", SYNTAX);
  }

  private static void spacesAndOtherBytes() {
    due("  court  one  one  ;  player  a  ;  player  b  reach  1  ;  ", 2);
    due("court one one;player a;player b;^\t", SYNTAX);
    due("court one one;^\nplayer a;player b;", SYNTAX);
    due("court one one;player a;player b;^\u00a0", SYNTAX);
    due("court one one;player a^\u00ff;player b;", SYNTAX);
    due("court one one;player a reach ^\u00b2;player b;", SYNTAX);
    due("court one one;player ^`;player b;", SYNTAX);
    due("court one one;player ^{;player b;", SYNTAX);
    due("court one one;player a reach ^/;player b;", SYNTAX);
    due("court one one;player a reach ^:;player b;", SYNTAX);
  }

  private static void lengths() {
    String text = "court one one;player a;player b;";
    due(text + " ".repeat(600 - text.length()), 2);
    due("court one one;player a reach " + "0".repeat(550) + "4;player b;", 2);
    due("court one one;player a reach ^" + "9".repeat(571), VALUE);
    due("^" + "a".repeat(600), SYNTAX);
    due("court one one;player a ^" + "a".repeat(577), SYNTAX);
  }

  private static void nothingOfOlderTexts() {
    String text = "court one one;drift -1;player a reach 1 owns 12;player b;";
    for (int end = 0; end < text.length(); end++) {
      HopscotchCourt x = new HopscotchCourt();
      HopscotchCourt y = new HopscotchCourt();
      Courts.load(x, text);
      check.due("load behind another one up to " + end, Courts.load(x, text.substring(0, end)),
          Courts.load(y, text.substring(0, end)));
      check.due("position up to " + end, x.errorPosition(), y.errorPosition());
    }
    HopscotchCourt z = new HopscotchCourt();
    Courts.load(z, text);
    check.due("an end ahead of an old sign", Courts.load(z, "court one one"), SYNTAX);
    check.due("its position", z.errorPosition(), 13);
  }

  private static void forbiddenTargets() {
    dueNumber("court one one one;player a;player b owns 1;", 0, 2, 2);
    dueNumber("court one one one;player a;player b owns 1 owns 2;", 0, 2, 3);
    dueNumber("court one one one;player a target 3;player b owns 3;", 0, 2, 1);
    dueNumber("court one one one;player a target 2;player b owns 2;player c owns 3;", 0, 2, 1);
    dueNumber("court one one one;player a target 3;player b owns 3 owns 1;", 0, 2, 2);
    dueNumber("court one one;player a;player b owns 1;player c owns 2;", 0, 2, 0);
    dueNumber("court one one;player a;player b owns 1;player c owns 2;", 1, 2, 1);
    dueNumber("court one one;player a;player b owns 1;player c owns 2;", 2, 2, 2);
    dueNumber("court one one;player a;player b owns 1;", 0, 4, 0);
  }
}
