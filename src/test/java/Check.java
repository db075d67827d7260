/** Counts answers that are not the ones that are due, and names them. */
final class Check {
  interface Call {
    long answer();
  }

  private int wrong = 0;

  void due(String call, long got, long want) {
    if (got != want) {
      tell(call, String.valueOf(got), String.valueOf(want));
    }
  }

  void dueReal(String call, double got, double want) {
    if (Double.compare(got, want) != 0) {
      tell(call, String.valueOf(got), String.valueOf(want));
    }
  }

  void dueText(String call, String got, String want) {
    if (!got.equals(want)) {
      tell(call, got, want);
    }
  }

  void dueThrow(String call, Class<? extends RuntimeException> want, Call made) {
    String got;
    try {
      got = String.valueOf(made.answer());
    } catch (RuntimeException e) {
      if (e.getClass() == want) {
        return;
      }
      got = e.toString();
    }
    tell(call, got, want.getSimpleName());
  }

  void dueIndex(String call, Call made) {
    dueThrow(call, IndexOutOfBoundsException.class, made);
  }

  void dueArgument(String call, Call made) {
    dueThrow(call, IllegalArgumentException.class, made);
  }

  void dueState(String call, Call made) {
    dueThrow(call, IllegalStateException.class, made);
  }

  /** What load answers to a new court, and where its error is: where the sign ^ stands. */
  void dueLoad(String marked, int answer) {
    int at = marked.indexOf('^');
    String text = at < 0 ? marked : marked.substring(0, at) + marked.substring(at + 1);
    HopscotchCourt x = new HopscotchCourt();
    due("load " + marked, Courts.load(x, text), answer);
    due("position in " + marked, x.errorPosition(), at);
  }

  void dueCounts(HopscotchCourt x, int... counts) {
    for (int what = 0; what < counts.length; what++) {
      due("count " + what, x.count(what), counts[what]);
    }
  }

  void dueNumbers(HopscotchCourt x, int player, int... numbers) {
    for (int what = 0; what < numbers.length; what++) {
      due("player " + player + " " + what, x.player(player, what), numbers[what]);
    }
  }

  void dueLandings(HopscotchCourt x, int... landings) {
    for (int square = 1; square <= landings.length; square++) {
      due("landings on " + square, x.square(square, 4), landings[square - 1]);
    }
  }

  /** A way is told by its places, such as "0 2"; with an empty text there is none. */
  void dueWay(HopscotchCourt x, int player, boolean back, String way, int cost) {
    String name = (back ? "way back of " : "way out of ") + player;
    dueText(name, Courts.way(x, player, back), way);
    due("cost of the " + name, x.cost(player, back), cost);
  }

  int wrong() {
    return wrong;
  }

  void end() {
    if (wrong > 0) {
      System.out.println(wrong + " wrong answers");
      System.exit(1);
    }
  }

  void tell(String call, String got, String want) {
    wrong++;
    if (wrong <= 50) {
      System.out.println(call + " answered " + got + ", due is " + want);
    }
  }
}
