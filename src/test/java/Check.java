/** What the tests share: it counts wrong answers, prints them, and ends the run with 1 if there was one. */
final class Check {
  private Check() {}

  private static int wrong = 0;

  interface Call { Object run(); }

  static void due(String what, Object got, Object want) {
    if (!want.equals(got)) {
      wrong++;
      System.out.println(what + " answered " + got + ", due is " + want);
    }
  }

  static void dueThrow(String what, Class<? extends RuntimeException> want, Call call) {
    due(what, outcome(call), want.getSimpleName());
  }

  /** The answer, or the simple name of what was thrown. */
  static Object outcome(Call call) {
    try {
      return call.run();
    } catch (RuntimeException e) {
      return e.getClass().getSimpleName();
    }
  }

  static DiffDesk desk(int limit, int[] base, int[] one, int[] two) {
    DiffDesk desk = new DiffDesk(limit);
    feed(desk, 0, base);
    feed(desk, 1, one);
    feed(desk, 2, two);
    return desk;
  }

  static void feed(DiffDesk desk, int row, int... symbols) {
    for (int symbol : symbols) {
      due("feed(" + row + ", " + symbol + ")", desk.feed(row, (short) symbol), true);
    }
  }

  static void feedSame(DiffDesk desk, int row, int symbol, int times) {
    for (int k = 0; k < times; k++) {
      feed(desk, row, symbol);
    }
  }

  static int[] row(int... symbols) {
    return symbols;
  }

  static String rowOf(DiffDesk desk, int row) {
    StringBuilder text = new StringBuilder();
    for (int k = 0; k < desk.size(row); k++) {
      text.append(desk.symbol(row, k)).append(' ');
    }
    return text.toString().trim();
  }

  static String resultOf(DiffDesk desk) {
    StringBuilder text = new StringBuilder();
    for (int k = 0; k < desk.results(); k++) {
      text.append(desk.result(k)).append(' ');
    }
    return text.toString().trim();
  }

  /** The script as "-place:symbol" and "+place:symbol", other kinds as "kind?place:symbol". */
  static String scriptOf(DiffDesk desk, int operations) {
    StringBuilder text = new StringBuilder();
    for (int k = 0; k < operations; k++) {
      int kind = desk.operation(k, 0);
      text.append(kind == 0 ? "-" : kind == 1 ? "+" : kind + "?");
      text.append(desk.operation(k, 1)).append(':').append(desk.operation(k, 2)).append(' ');
    }
    for (int what = 0; what < 3; what++) {
      due("operation(" + operations + ", " + what + ")", desk.operation(operations, what), -1);
    }
    return text.toString().trim();
  }

  /** The hunks as "begin,symbols,insertions,deletions". */
  static String hunksOf(DiffDesk desk, int n) {
    StringBuilder text = new StringBuilder();
    int hunks = desk.hunks(n);
    for (int k = 0; k < hunks; k++) {
      for (int what = 0; what < 4; what++) {
        text.append(desk.hunk(n, k, what)).append(what < 3 ? "," : " ");
      }
    }
    for (int what = 0; what < 4; what++) {
      due("hunk(" + n + ", " + hunks + ", " + what + ")", desk.hunk(n, hunks, what), -1);
    }
    return text.toString().trim();
  }

  static void end(String test) {
    System.out.println(test + ": " + (wrong == 0 ? "all answers are as due" : wrong + " answers are not as due"));
    if (wrong != 0) {
      System.exit(1);
    }
  }
}
