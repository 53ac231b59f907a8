/** Promises 11 to 13 for merges: merge, result, results. */
public final class MergeTest {
  public static void main(String[] args) {
    withoutConflict();
    conflicts();
    betweenStableSymbols();
    longestResult();
    changesTheResultAlone();
    latestOfPatchAndMergeCounts();
    eachMergeBeginsAnew();
    limitDoesNotCount();
    Check.end("MergeTest");
  }

  private static void dueMerged(int conflicts, String want, int[] base, int[] one, int[] two) {
    DiffDesk desk = Check.desk(40, base, one, two);
    Check.due("conflicts for " + want, desk.merge(), conflicts);
    Check.due("merged", Check.resultOf(desk), want);
    Check.due("results", desk.results(), want.isEmpty() ? 0 : want.split(" ").length);
    Check.due("behind the result", desk.result(desk.results()), -40);
  }

  private static void withoutConflict() {
    dueMerged(0, "", Check.row(), Check.row(), Check.row());
    dueMerged(0, "1 2 3", Check.row(1, 2, 3), Check.row(1, 2, 3), Check.row(1, 2, 3));
    dueMerged(0, "1 9 3", Check.row(1, 2, 3), Check.row(1, 9, 3), Check.row(1, 2, 3));
    dueMerged(0, "1 9 3", Check.row(1, 2, 3), Check.row(1, 2, 3), Check.row(1, 9, 3));
    dueMerged(0, "1 9 3", Check.row(1, 2, 3), Check.row(1, 9, 3), Check.row(1, 9, 3));
    dueMerged(0, "1 3", Check.row(1, 2, 3), Check.row(1, 3), Check.row(1, 2, 3));
    dueMerged(0, "", Check.row(1, 2, 3), Check.row(), Check.row(1, 2, 3));
    dueMerged(0, "", Check.row(1, 2, 3), Check.row(), Check.row());
    dueMerged(0, "7 8", Check.row(), Check.row(7, 8), Check.row());
    dueMerged(0, "7 8", Check.row(), Check.row(), Check.row(7, 8));
    dueMerged(0, "7 8", Check.row(), Check.row(7, 8), Check.row(7, 8));
    dueMerged(0, "0 1 2 3 4", Check.row(1, 2, 3), Check.row(0, 1, 2, 3), Check.row(1, 2, 3, 4));
    dueMerged(0, "9 2 8", Check.row(1, 2, 3), Check.row(9, 2, 3), Check.row(1, 2, 8));
  }

  private static void conflicts() {
    dueMerged(1, "-1 7 -2 8 -3", Check.row(), Check.row(7), Check.row(8));
    dueMerged(1, "1 -1 9 -2 8 -3 3", Check.row(1, 2, 3), Check.row(1, 9, 3), Check.row(1, 8, 3));
    dueMerged(1, "1 -1 -2 8 -3 3", Check.row(1, 2, 3), Check.row(1, 3), Check.row(1, 8, 3));
    dueMerged(1, "1 -1 9 -2 -3 3", Check.row(1, 2, 3), Check.row(1, 9, 3), Check.row(1, 3));
    dueMerged(2, "-1 5 -2 6 -3 1 -1 7 -2 8 -3", Check.row(1), Check.row(5, 1, 7), Check.row(6, 1, 8));
    dueMerged(1, "-1 5 1 -2 6 -3", Check.row(1), Check.row(5, 1), Check.row(6));
    dueMerged(1, "-1 7 -2 7 8 -3", Check.row(), Check.row(7), Check.row(7, 8));
    dueMerged(1, "-1 7 8 -2 7 -3", Check.row(), Check.row(7, 8), Check.row(7));
  }

  // A symbol that one row alone keeps is not stable, so its neighbours belong to one stretch.
  private static void betweenStableSymbols() {
    dueMerged(1, "1 -1 9 3 -2 2 8 -3 4", Check.row(1, 2, 3, 4), Check.row(1, 9, 3, 4), Check.row(1, 2, 8, 4));
    dueMerged(0, "1 9 2 8 3", Check.row(1, 2, 3), Check.row(1, 9, 2, 3), Check.row(1, 2, 8, 3));
    dueMerged(1, "-1 2 -2 1 -3", Check.row(1, 2), Check.row(2), Check.row(1));
    dueMerged(0, "5 5 5", Check.row(5, 5), Check.row(5, 5, 5), Check.row(5, 5, 5));
  }

  private static void longestResult() {
    DiffDesk desk = new DiffDesk(40);
    Check.feedSame(desk, 0, 1, 20);
    Check.feedSame(desk, 1, 2, 20);
    Check.feedSame(desk, 2, 3, 20);
    Check.due("all in conflict", desk.merge(), 1);
    Check.due("its size", desk.results(), 43);
    Check.due("its end", desk.result(42), -3);
    DiffDesk many = new DiffDesk(40);
    for (int k = 0; k < 10; k++) {
      Check.feed(many, 0, k, 1000 + k);
      Check.feed(many, 1, k, 2000 + k);
      Check.feed(many, 2, k, 3000 + k);
    }
    Check.due("ten conflicts", many.merge(), 10);
    Check.due("their size", many.results(), 60);
    Check.due("the last one of row 2", many.result(58), 3009);
    DiffDesk most = new DiffDesk(40);
    for (int k = 0; k < 10; k++) {
      Check.feed(most, 0, k);
      Check.feed(most, 1, 2000 + k, k);
      Check.feed(most, 2, 3000 + k, k);
    }
    Check.due("ten conflicts of insertions", most.merge(), 10);
    Check.due("their size", most.results(), 60);
    Check.due("the last stable symbol", most.result(59), 9);
    DiffDesk longest = longestOfAll();
    Check.due("twelve conflicts", longest.merge(), 12);
    Check.due("more than the 60 of a patch", longest.results(), 65);
    Check.due("its last symbol", longest.result(63), 3013);
    Check.due("its last mark", longest.result(64), -3);
    Check.due("a patch behind it", longest.patch(0), 20);
    Check.due("and the merge again", longest.merge(), 12);
    Check.due("with its size", longest.results(), 65);
  }

  /** Full rows with a conflict before, between and behind eleven stable symbols: no more have room. */
  private static DiffDesk longestOfAll() {
    DiffDesk desk = new DiffDesk(40);
    for (int k = 0; k < 12; k++) {
      boolean baseHas = k < 9;
      if (baseHas) {
        Check.feed(desk, 0, 1000 + k);
      }
      if (!baseHas || k % 2 == 0) {
        Check.feed(desk, 1, 2000 + k);
      }
      if (!baseHas || k % 2 == 1) {
        Check.feed(desk, 2, 3000 + k);
      }
      for (int row = 0; row < 3 && k < 11; row++) {
        Check.feed(desk, row, k);
      }
    }
    Check.feed(desk, 1, 2012);
    Check.feed(desk, 2, 3012, 3013);
    return desk;
  }

  private static void changesTheResultAlone() {
    DiffDesk desk = Check.desk(40, Check.row(1, 2), Check.row(1, 3), Check.row(4, 2));
    desk.diff(0, 1);
    desk.merge();
    Check.due("script after merge", Check.scriptOf(desk, 2), "-1:2 +2:3");
    Check.due("hunks after merge", Check.hunksOf(desk, 0), "1,1,1,1");
    Check.due("rows after merge", Check.rowOf(desk, 0) + "/" + Check.rowOf(desk, 1) + "/" + Check.rowOf(desk, 2),
        "1 2/1 3/4 2");
  }

  private static void latestOfPatchAndMergeCounts() {
    DiffDesk desk = Check.desk(40, Check.row(1, 2), Check.row(1, 3), Check.row(1, 2));
    desk.patch(0);
    Check.due("patched", Check.resultOf(desk), "1 2");
    desk.merge();
    Check.due("merged", Check.resultOf(desk), "1 3");
    desk.patch(2);
    Check.due("patched again", Check.resultOf(desk), "1 2");
    desk.clear(1);
    desk.clear(2);
    desk.merge();
    Check.due("merged to nothing", desk.results(), 0);
    Check.due("nothing there", desk.result(0), -40);
  }

  private static void eachMergeBeginsAnew() {
    DiffDesk desk = Check.desk(40, Check.row(1, 5), Check.row(2, 5), Check.row(1, 5));
    for (int time = 0; time < 3; time++) {
      Check.due("merge " + time, desk.merge(), 0);
      Check.due("its result", Check.resultOf(desk), "2 5");
    }
  }

  private static void limitDoesNotCount() {
    DiffDesk desk = Check.desk(0, Check.row(1, 2), Check.row(3, 4, 5), Check.row(1, 2));
    Check.due("merge with LIMIT 0", desk.merge(), 0);
    Check.due("its result", Check.resultOf(desk), "3 4 5");
  }
}
