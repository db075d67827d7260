/** Counts answers that are not the ones that are due, and names them. */
final class Check {
  interface Call {
    long answer();
  }

  private int wrong = 0;

  void due(String call, long got, long want) {
    if (got != want) {
      tell(call, String.valueOf(got), String.valueOf(want));
    }
  }

  void dueReal(String call, double got, double want) {
    if (Double.compare(got, want) != 0) {
      tell(call, String.valueOf(got), String.valueOf(want));
    }
  }

  void dueText(String call, String got, String want) {
    if (!got.equals(want)) {
      tell(call, got, want);
    }
  }

  void dueThrow(String call, Class<? extends RuntimeException> want, Call made) {
    String got;
    try {
      got = String.valueOf(made.answer());
    } catch (RuntimeException e) {
      if (e.getClass() == want) {
        return;
      }
      got = e.toString();
    }
    tell(call, got, want.getSimpleName());
  }

  void dueIndex(String call, Call made) {
    dueThrow(call, IndexOutOfBoundsException.class, made);
  }

  void dueArgument(String call, Call made) {
    dueThrow(call, IllegalArgumentException.class, made);
  }

  void dueState(String call, Call made) {
    dueThrow(call, IllegalStateException.class, made);
  }

  void end() {
    if (wrong > 0) {
      System.out.println(wrong + " wrong answers");
      System.exit(1);
    }
  }

  private void tell(String call, String got, String want) {
    wrong++;
    if (wrong <= 50) {
      System.out.println(call + " answered " + got + ", due is " + want);
    }
  }
}
