/**
 * What the tests share. A test file gives each sentence of the document a test of its own by holds; wrong answers are
 * counted and printed under the sentence that they break, and end makes the run fail if there was one.
 */
final class Check {
  private Check() {}

  /** Just outside the rows 0 to 2, far outside, and what a cast to a shorter number would make row 0. */
  static final int[] NO_ROWS = {-1, 3, Integer.MIN_VALUE, Integer.MAX_VALUE, 65536};

  private static int wrong = 0;
  private static int held = 0;
  private static int broken = 0;

  interface Call { Object run(); }

  static void holds(String sentence, Runnable test) {
    int before = wrong;
    try {
      test.run();
    } catch (RuntimeException e) {
      wrong++;
      System.out.println("the test itself ended with " + e);
    }
    if (wrong == before) {
      held++;
    } else {
      broken++;
      System.out.println("  BROKEN: " + sentence);
    }
  }

  static void due(String what, Object got, Object want) {
    if (!want.equals(got)) {
      wrong++;
      System.out.println(what + " answered " + got + ", due is " + want);
    }
  }

  static void dueThrow(String what, Class<? extends RuntimeException> want, Call call) {
    due(what, outcome(call), want.getSimpleName());
  }

  /** The call must throw, and all that can be asked of the object must be as before. */
  static void dueThrowAndNoChange(String what, Class<? extends RuntimeException> want, DiffDesk desk, Call call) {
    String before = stateOf(desk);
    dueThrow(what, want, call);
    due("the state behind " + what, stateOf(desk), before);
  }

  /** The call must answer this, and all that can be asked of the object must be as before. */
  static void dueAndNoChange(String what, Object want, DiffDesk desk, Call call) {
    String before = stateOf(desk);
    due(what, outcome(call), want);
    due("the state behind " + what, stateOf(desk), before);
  }

  /** Between two rows with these symbols, diff must make this script, written as scriptOf writes it. */
  static void dueScript(int[] a, int[] b, String want) {
    DiffDesk desk = desk(40, a, b, row());
    int operations = want.isEmpty() ? 0 : want.split(" ").length;
    due("diff for " + want, desk.diff(0, 1), operations);
    due("script", scriptOf(desk, operations), want);
  }

  /** The answer, or the simple name of what was thrown. */
  static Object outcome(Call call) {
    try {
      return call.run();
    } catch (RuntimeException e) {
      return e.getClass().getSimpleName();
    }
  }

  static DiffDesk desk(int limit, int[] base, int[] one, int[] two) {
    DiffDesk desk = new DiffDesk(limit);
    feed(desk, 0, base);
    feed(desk, 1, one);
    feed(desk, 2, two);
    return desk;
  }

  static void feed(DiffDesk desk, int row, int... symbols) {
    for (int symbol : symbols) {
      due("feed(" + row + ", " + symbol + ")", desk.feed(row, (short) symbol), true);
    }
  }

  static void feedSame(DiffDesk desk, int row, int symbol, int times) {
    feed(desk, row, same(symbol, times));
  }

  /** Loads operations that are given as kind, place, symbol, kind, place, symbol .. */
  static void load(DiffDesk desk, int... parts) {
    for (int k = 0; k + 2 < parts.length; k += 3) {
      due("load", desk.load(parts[k], parts[k + 1], parts[k + 2]), true);
    }
  }

  static int[] row(int... symbols) {
    return symbols;
  }

  static int[] same(int symbol, int times) {
    int[] symbols = new int[times];
    java.util.Arrays.fill(symbols, symbol);
    return symbols;
  }

  /** The symbols from, from + 1 .. up to just before to. */
  static int[] range(int from, int to) {
    return java.util.stream.IntStream.range(from, to).toArray();
  }

  static int[] join(int[]... parts) {
    return java.util.stream.Stream.of(parts).flatMapToInt(java.util.Arrays::stream).toArray();
  }

  static String text(int... numbers) {
    StringBuilder text = new StringBuilder();
    for (int number : numbers) {
      text.append(number).append(' ');
    }
    return text.toString().trim();
  }

  static String rowOf(DiffDesk desk, int row) {
    StringBuilder text = new StringBuilder();
    for (int k = 0; k < desk.size(row); k++) {
      text.append(desk.symbol(row, k)).append(' ');
    }
    return text.toString().trim();
  }

  static String resultOf(DiffDesk desk) {
    StringBuilder text = new StringBuilder();
    for (int k = 0; k < desk.results(); k++) {
      text.append(desk.result(k)).append(' ');
    }
    return text.toString().trim();
  }

  /** The script as "-place:symbol" and "+place:symbol", other kinds as "kind?place:symbol". */
  static String scriptOf(DiffDesk desk, int operations) {
    StringBuilder text = new StringBuilder();
    for (int k = 0; k < operations; k++) {
      int kind = desk.operation(k, 0);
      text.append(kind == 0 ? "-" : kind == 1 ? "+" : kind + "?");
      text.append(desk.operation(k, 1)).append(':').append(desk.operation(k, 2)).append(' ');
    }
    for (int what = 0; what < 3; what++) {
      due("operation(" + operations + ", " + what + ")", desk.operation(operations, what), -1);
    }
    return text.toString().trim();
  }

  /** The hunks as "begin,symbols,insertions,deletions". */
  static String hunksOf(DiffDesk desk, int n) {
    StringBuilder text = new StringBuilder();
    int hunks = desk.hunks(n);
    for (int k = 0; k < hunks; k++) {
      for (int what = 0; what < 4; what++) {
        text.append(desk.hunk(n, k, what)).append(what < 3 ? "," : " ");
      }
    }
    for (int what = 0; what < 4; what++) {
      due("hunk(" + n + ", " + hunks + ", " + what + ")", desk.hunk(n, hunks, what), -1);
    }
    return text.toString().trim();
  }

  /** Rows, script, result and hunks, as far as the face tells them. */
  static String stateOf(DiffDesk desk) {
    StringBuilder text = new StringBuilder();
    for (int row = 0; row < 3; row++) {
      text.append("row ").append(rowOf(desk, row)).append('\n');
    }
    for (int k = 0; k < 60; k++) {
      text.append(desk.operation(k, 0)).append(' ').append(desk.operation(k, 1)).append(' ');
      text.append(desk.operation(k, 2)).append('\n');
    }
    text.append("result ").append(resultOf(desk)).append('\n');
    for (int n = 0; n < 10; n++) {
      text.append("hunks ").append(hunksOf(desk, n)).append('\n');
    }
    return text.toString();
  }

  static void end(String test) {
    System.out.println(test + ": " + held + " tests held, " + broken + " broken");
    if (wrong != 0) {
      System.exit(1);
    }
  }
}
