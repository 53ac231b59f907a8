/** Promises 12 and 13: result, results. */
public final class ResultTest {
  public static void main(String[] args) {
    Check.holds("12: Symbol k of the result", ResultTest::symbolOfTheResult);
    Check.holds("12: -40 if there is none (no patch and no merge yet)", ResultTest::noneYet);
    Check.holds("12: -40 if there is none (before the first, behind the last)", ResultTest::noneOutside);
    Check.holds("12: -40 if there is none (an empty result)", ResultTest::noneInAnEmptyResult);
    Check.holds("12: -40 if there is none (the places of a longer result before)", ResultTest::noneOfALongerResult);
    Check.holds("12: the latest patch or merge", ResultTest::latestCounts);
    Check.holds("12: the latest patch or merge (one that threw made none)", ResultTest::thrownPatchMadeNone);
    Check.holds("12: (a refused or a later call leaves it)", ResultTest::otherCallsLeaveIt);
    Check.holds("13: How many symbols that result has", ResultTest::resultsCounts);
    Check.end("ResultTest");
  }

  private static final int[] FAR = {Integer.MIN_VALUE, -41, -40, -2, -1, 1000, Integer.MAX_VALUE};

  private static DiffDesk deskOf(int... row) {
    return Check.desk(40, row, Check.row(), Check.row());
  }

  private static void symbolOfTheResult() {
    DiffDesk desk = deskOf(0, 30000, 7);
    desk.patch(0);
    Check.due("result(0)", desk.result(0), 0);
    Check.due("result(1)", desk.result(1), 30000);
    Check.due("result(2)", desk.result(2), 7);
    Check.feed(desk, 1, 5);
    Check.feed(desk, 2, 6);
    desk.merge();
    Check.due("a mark", desk.result(0), -1);
    Check.due("a symbol of row 1", desk.result(1), 5);
    Check.due("the last mark", desk.result(4), -3);
  }

  private static void noneYet() {
    DiffDesk desk = Check.desk(40, Check.row(1), Check.row(2), Check.row(3));
    desk.diff(0, 1);
    desk.alike(0, 1);
    for (int k : new int[] {-1, 0, 1, 59, 60, 64, 65, 122, 123}) {
      Check.due("result(" + k + ")", desk.result(k), -40);
    }
    Check.due("results", desk.results(), 0);
    desk.patch(0);
    Check.due("result(0) behind a patch", desk.result(0), 2);
  }

  private static void noneOutside() {
    DiffDesk desk = deskOf(1);
    for (int symbols = 1; symbols <= 60; symbols++) {
      Check.due("patch", desk.patch(0), symbols);
      Check.due("the last of " + symbols, desk.result(symbols - 1) >= 0, true);
      Check.due("behind the last of " + symbols, desk.result(symbols), -40);
      if (symbols < 60) {
        Check.load(desk, 1, 1, symbols);
      }
    }
    for (int k : FAR) {
      Check.due("result(" + k + ")", desk.result(k), -40);
    }
    Check.due("result(0)", desk.result(0), 1);
  }

  private static void noneInAnEmptyResult() {
    DiffDesk patched = new DiffDesk(40);
    patched.patch(1);
    DiffDesk merged = new DiffDesk(40);
    merged.merge();
    for (int k : new int[] {-1, 0, 1}) {
      Check.due("result(" + k + ") of an empty patch", patched.result(k), -40);
      Check.due("result(" + k + ") of an empty merge", merged.result(k), -40);
    }
  }

  private static void noneOfALongerResult() {
    DiffDesk desk = Check.desk(40, Check.row(1, 2, 3), Check.row(1, 2, 3), Check.row(9));
    desk.merge();
    Check.due("a merge to one", Check.resultOf(desk), "9");
    desk.patch(0);
    Check.due("a patch to three", Check.resultOf(desk), "1 2 3");
    desk.patch(2);
    Check.due("behind a patch to one", desk.result(1), -40);
    desk.patch(0);
    desk.merge();
    Check.due("behind a merge to one", desk.result(1), -40);
    desk.clear(2);
    desk.merge();
    Check.due("behind a merge to none", desk.result(0), -40);
  }

  private static void latestCounts() {
    DiffDesk desk = Check.desk(40, Check.row(1, 2), Check.row(1, 3), Check.row(1, 2));
    desk.patch(0);
    Check.due("patched", Check.resultOf(desk), "1 2");
    desk.merge();
    Check.due("merged", Check.resultOf(desk), "1 3");
    desk.patch(2);
    Check.due("patched again", Check.resultOf(desk), "1 2");
    desk.patch(1);
    Check.due("patched twice", Check.resultOf(desk), "1 3");
    desk.clear(2);
    desk.merge();
    Check.due("merged again", Check.resultOf(desk), "-1 1 3 -2 -3");
  }

  private static void thrownPatchMadeNone() {
    DiffDesk desk = deskOf(1, 2, 3);
    Check.load(desk, 1, 0, 9);
    desk.patch(0);
    Check.load(desk, 0, 0, 1, 0, 1, 5);
    for (int time = 0; time < 2; time++) {
      Check.dueThrow("patch", IllegalStateException.class, () -> desk.patch(0));
      Check.due("the result of the patch before", Check.resultOf(desk), "9 1 2 3");
      Check.due("behind it", desk.result(4), -40);
    }
    desk.merge();
    Check.dueThrow("patch", IllegalStateException.class, () -> desk.patch(0));
    Check.due("the result of the merge before", Check.resultOf(desk), "");
    DiffDesk fresh = deskOf(1);
    Check.load(fresh, 1, 0, 9, 1, 5, 9);
    Check.dueThrow("patch", IndexOutOfBoundsException.class, () -> fresh.patch(0));
    Check.due("none before either", fresh.results(), 0);
  }

  private static void otherCallsLeaveIt() {
    DiffDesk desk = Check.desk(40, Check.row(1, 2), Check.row(3), Check.row(4));
    desk.patch(0);
    desk.clear(0);
    Check.feed(desk, 0, 8, 8, 8);
    desk.diff(1, 2);
    desk.load(1, 0, 7);
    desk.alike(0, 1);
    desk.hunks(0);
    desk.forget();
    Check.due("the result", Check.resultOf(desk), "1 2");
  }

  private static void resultsCounts() {
    DiffDesk desk = deskOf();
    Check.due("results of a new object", desk.results(), 0);
    Check.due("patch", desk.patch(0), 0);
    Check.due("results of an empty patch", desk.results(), 0);
    for (int k = 1; k <= 60; k++) {
      Check.load(desk, 1, 0, k);
      Check.due("patch", desk.patch(0), k);
      Check.due("results", desk.results(), k);
    }
    Check.feed(desk, 0, 1);
    Check.dueThrow("patch to 61", UnsupportedOperationException.class, () -> desk.patch(0));
    Check.due("results behind it", desk.results(), 60);
    desk.merge();
    Check.due("results of an empty merge", desk.results(), 0);
    Check.feed(desk, 1, 2);
    desk.merge();
    Check.due("results with the marks of a conflict", desk.results(), 4);
  }
}
